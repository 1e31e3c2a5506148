/** Runs of calls, drawn from a fixed sequence of numbers, on the program and on the reference beside it. */
public final class ReferenceTest {
    private static final int RUNS = 500;
    private static final int CALLS = 512;

    private static long seed;
    private static int wrong = 0;
    private static StringBuilder done;

    private static DistrictTotals program;
    private static Reference reference;
    private static int crossings;
    private static int districts;
    private static int lengths;

    private ReferenceTest() {
    }

    private static int draw(int bound) {
        seed = seed * 6364136223846793005L + 1442695040888963407L;
        return (int) ((seed >>> 33) % bound);
    }

    private static int crossing() {
        return draw(60) == 0 ? draw(2) * 15 - 1 : draw(crossings);
    }

    private static int district() {
        return draw(60) == 0 ? draw(2) * 5 - 1 : draw(districts);
    }

    private static int laneNumber() {
        int lanes = reference.state.lanes.size();
        return draw(40) == 0 || lanes == 0 ? draw(26) - 1 : draw(lanes);
    }

    private static int alleyNumber() {
        int alleys = reference.state.alleys.size();
        return draw(40) == 0 || alleys == 0 ? draw(14) - 1 : draw(alleys);
    }

    private static int what(int most) {
        return draw(60) == 0 ? draw(2) * (most + 2) - 1 : draw(most + 1);
    }

    private static void compare(String call, float got, float due) {
        done.append(call).append(" -> ").append(due).append('\n');
        if (got != due) {
            wrong++;
            if (wrong == 1) {
                System.out.println(done);
            }
            System.out.println(call + " answered " + got + ", the reference " + due);
        }
    }

    private static void change(int kind) {
        int a = crossing();
        int b = draw(20) == 0 ? a : crossing();
        int l = draw(50) == 0 ? draw(2) * 21 : 1 + draw(lengths);
        int d = district();
        int n = laneNumber();
        switch (kind) {
            case 0: case 1: case 2: case 3: case 4: case 5:
                compare("lane(" + a + ", " + b + ", " + l + ", " + d + ")",
                        program.lane(a, b, l, d), reference.lane(a, b, l, d));
                break;
            case 6: case 7:
                int own = draw(40) == 0 ? draw(2) * 22 - 1 : draw(21);
                compare("alley(" + a + ", " + own + ", " + d + ")",
                        program.alley(a, own, d), reference.alley(a, own, d));
                break;
            case 8:
                compare("takeLane(" + n + ")", program.takeLane(n), reference.takeLane(n));
                break;
            case 9: case 10:
                boolean closed = draw(2) == 0;
                compare("close(" + n + ", " + closed + ")", program.close(n, closed), reference.close(n, closed));
                break;
            case 11: case 12:
                int rank = draw(40) == 0 ? draw(2) * 11 - 1 : draw(2) * draw(10);
                compare("rank(" + a + ", " + rank + ")", program.rank(a, rank), reference.rank(a, rank));
                break;
            case 13:
                int alley = alleyNumber();
                compare("takeAlley(" + alley + ")", program.takeAlley(alley), reference.takeAlley(alley));
                break;
            case 14:
                compare("undo()", program.undo(), reference.undo());
                break;
            case 15:
                compare("keep()", program.keep(), reference.keep());
                break;
            default:
                compare("restore()", program.restore(), reference.restore());
                break;
        }
    }

    private static String part() {
        if (draw(3) == 0) {
            return "a" + draw(14) + "+" + draw(21) + ":" + draw(4);
        }
        return draw(14) + "-" + draw(14) + "*" + (1 + draw(20)) + ":" + draw(4);
    }

    private static int write() {
        StringBuilder text = new StringBuilder();
        int parts = 1 + draw(8);
        for (int i = 0; i < parts; i++) {
            text.append(i == 0 ? "" : ";").append(part());
        }
        if (draw(2) == 0) {
            String signs = "0123456789-*:+;a x";
            int place = draw(text.length());
            char sign = draw(30) == 0 ? (char) draw(65536) : signs.charAt(draw(signs.length()));
            if (draw(3) == 0) {
                text.insert(place, sign);
            } else if (draw(2) == 0) {
                text.setCharAt(place, sign);
            } else {
                text.setLength(place);
            }
        }
        if (draw(4) != 0) {
            compare("clearText()", program.clearText(), reference.clearText());
        }
        for (int i = 0; i < text.length(); i++) {
            char sign = text.charAt(i);
            compare("type(" + (int) sign + ")", program.type(sign), reference.type(sign));
        }
        compare("fault()", program.fault(), reference.fault());
        compare("tellAll()", program.tellAll(), reference.tellAll());
        return text.length() + 3;
    }

    private static void ask(int kind) {
        int c = crossing();
        int b = crossing();
        int a = alleyNumber();
        int n = laneNumber();
        int d = district();
        int w;
        switch (kind) {
            case 0:
                w = what(6);
                compare("laneOf(" + n + ", " + w + ")", program.laneOf(n, w), reference.laneOf(n, w));
                break;
            case 1:
                w = what(3);
                compare("alleyOf(" + a + ", " + w + ")", program.alleyOf(a, w), reference.alleyOf(a, w));
                break;
            case 2: case 3:
                w = what(5);
                compare("crossingOf(" + c + ", " + w + ")", program.crossingOf(c, w), reference.crossingOf(c, w));
                break;
            case 4:
                compare("within(" + d + ", " + c + ", " + b + ")", program.within(d, c, b), reference.within(d, c, b));
                break;
            case 5: case 6: case 7: case 8:
                w = what(3);
                compare("total(" + c + ", " + a + ", " + w + ")", program.total(c, a, w), reference.total(c, a, w));
                break;
            case 9: case 10: case 11:
                w = what(2);
                compare("walk(" + c + ", " + a + ", " + w + ")", program.walk(c, a, w), reference.walk(c, a, w));
                break;
            case 12:
                compare("shortest(" + c + ", " + a + ")", program.shortest(c, a), reference.shortest(c, a));
                break;
            case 13:
                compare("stretch(" + c + ", " + a + ")", program.stretch(c, a), reference.stretch(c, a));
                break;
            case 14: case 15:
                w = what(9);
                compare("count(" + w + ")", program.count(w), reference.count(w));
                break;
            case 16: case 17:
                w = what(2);
                compare("ifClosed(" + n + ", " + w + ")", program.ifClosed(n, w), reference.ifClosed(n, w));
                break;
            case 18:
                compare("weakest()", program.weakest(), reference.weakest());
                break;
            default:
                w = what(2);
                compare("bestGate(" + d + ", " + w + ")", program.bestGate(d, w), reference.bestGate(d, w));
                break;
        }
    }

    private static void run(int number) {
        seed = number;
        draw(2);
        program = new DistrictTotals();
        reference = new Reference();
        done = new StringBuilder("run " + number + "\n");
        crossings = 4 + draw(11);
        districts = 2 + draw(3);
        lengths = draw(2) == 0 ? 3 : 20;
        int writes = draw(3) == 0 ? 40 : 400;
        int calls = 0;
        while (calls < CALLS && wrong == 0) {
            int kind = draw(writes);
            if (kind == 0 && calls + 70 < CALLS) {
                calls += write();
            } else if (draw(3) == 0 || calls < 20) {
                change(calls < 20 ? draw(8) : draw(17));
                calls++;
            } else {
                ask(draw(20));
                calls++;
            }
        }
    }

    public static void main(String[] args) {
        for (int number = 1; number <= RUNS && wrong == 0; number++) {
            run(number);
        }
        System.out.println(wrong == 0 ? RUNS + " runs answer as the reference does" : "a run answers otherwise");
        if (wrong != 0) {
            System.exit(1);
        }
    }
}
