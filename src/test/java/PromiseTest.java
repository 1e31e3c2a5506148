/** For each promise of the document: ordinary calls, the edges that it names, and wrong arguments. */
public final class PromiseTest {
    private static final int UNKNOWN = -1;
    private static final int BAD_VALUE = -2;
    private static final int FULL = -3;
    private static final int NONE = -5;

    private static int promise = 0;
    private static int wrong = 0;
    private static int checks = 0;

    private PromiseTest() {
    }

    private static void due(String call, double got, double due) {
        checks++;
        if (got != due) {
            wrong++;
            System.out.println("promise " + promise + ": " + call + " answered " + got + ", due is " + due);
        }
    }

    private static int set(int... members) {
        int set = 0;
        for (int member : members) {
            set |= 1 << member;
        }
        return set;
    }

    private static void write(DistrictTotals x, String text) {
        x.clearText();
        for (int i = 0; i < text.length(); i++) {
            x.type(text.charAt(i));
        }
    }

    private static DistrictTotals told(String... texts) {
        DistrictTotals x = new DistrictTotals();
        for (String text : texts) {
            write(x, text);
            if (x.tellAll() < 0) {
                wrong++;
                System.out.println("promise " + promise + ": the text " + text + " can't be told");
            }
        }
        return x;
    }

    /** Backbone 0-1-2, district 1 behind 0: 3-4, district 2 behind 2: 5-6; an alley in each of these three. */
    private static DistrictTotals town() {
        return told("0-1*5:0;1-2*7:0;0-3*2:1;3-4*3:1;2-5*4:2;5-6*6:2", "a4+1:1;a6+2:2;a1+3:0");
    }

    private static void newObject() {
        DistrictTotals x = new DistrictTotals();
        for (int what = 0; what < 10; what++) {
            due("count(" + what + ")", x.count(what), 0);
        }
        for (int crossing = 0; crossing < 14; crossing++) {
            for (int what = 0; what < 6; what++) {
                due("crossingOf(" + crossing + ", " + what + ")", x.crossingOf(crossing, what), what == 0 ? 1 : 0);
            }
        }
        due("undo()", x.undo(), NONE);
        due("restore()", x.restore(), NONE);
        due("fault()", x.fault(), 0);
        due("laneOf(0, 0)", x.laneOf(0, 0), UNKNOWN);
        due("alleyOf(0, 0)", x.alleyOf(0, 0), UNKNOWN);
        DistrictTotals y = new DistrictTotals();
        x.lane(0, 1, 1, 0);
        due("count(0) of another object", y.count(0), 0);
    }

    private static void lane() {
        DistrictTotals x = new DistrictTotals();
        int[][] unknown = {{-1, 0, 1, 0}, {14, 0, 1, 0}, {0, -1, 1, 0}, {0, 14, 1, 0}, {0, 1, 1, -1}, {0, 1, 1, 4},
            {14, 14, 0, 4}, {0, 0, 0, 4}, {Integer.MIN_VALUE, 0, 1, 0}, {0, Integer.MAX_VALUE, 1, 0}};
        for (int[] u : unknown) {
            due("lane of unknown", x.lane(u[0], u[1], u[2], u[3]), UNKNOWN);
        }
        due("lane(0, 1, 0, 0)", x.lane(0, 1, 0, 0), BAD_VALUE);
        due("lane(0, 1, 21, 0)", x.lane(0, 1, 21, 0), BAD_VALUE);
        due("lane(0, 1, -1, 0)", x.lane(0, 1, -1, 0), BAD_VALUE);
        due("lane(5, 5, 1, 0)", x.lane(5, 5, 1, 0), BAD_VALUE);
        due("count(8) after errors", x.count(8), 0);
        for (int lane = 0; lane < 24; lane++) {
            due("lane " + lane, x.lane(lane % 13, 13, 1 + lane % 20, lane % 4), lane);
        }
        due("lane when full", x.lane(0, 1, 1, 0), FULL);
        due("bad lane when full", x.lane(0, 0, 1, 0), BAD_VALUE);
        due("unknown lane when full", x.lane(0, 14, 1, 0), UNKNOWN);
        due("count(0)", x.count(0), 24);
        due("undo()", x.undo(), 3);
        due("lane again", x.lane(13, 0, 20, 3), 23);
        due("laneOf(23, 0)", x.laneOf(23, 0), 13);
        due("laneOf(23, 2)", x.laneOf(23, 2), 20);
    }

    private static void takeLane() {
        DistrictTotals x = told("0-1*1:0;1-2*2:1;2-3*3:2;3-4*4:3");
        x.close(2, true);
        due("takeLane(-1)", x.takeLane(-1), UNKNOWN);
        due("takeLane(4)", x.takeLane(4), UNKNOWN);
        due("takeLane(24)", x.takeLane(24), UNKNOWN);
        due("takeLane(1)", x.takeLane(1), 3);
        due("the lane that moved up, one", x.laneOf(1, 0), 2);
        due("the lane that moved up, other", x.laneOf(1, 1), 3);
        due("the lane that moved up, length", x.laneOf(1, 2), 3);
        due("the lane that moved up, district", x.laneOf(1, 3), 2);
        due("the lane that moved up, closed", x.laneOf(1, 4), 1);
        due("the last lane moved up", x.laneOf(2, 0), 3);
        due("the first lane stays", x.laneOf(0, 1), 1);
        due("takeLane(3)", x.takeLane(3), UNKNOWN);
        due("within(1, 1, 2)", x.within(1, 1, 2), NONE);
        due("takeLane(2)", x.takeLane(2), 2);
        due("takeLane(0)", x.takeLane(0), 1);
        due("takeLane(0)", x.takeLane(0), 0);
        due("takeLane(0)", x.takeLane(0), UNKNOWN);
        due("undo()", x.undo(), 3);
        due("count(0)", x.count(0), 1);
        due("lane after closed one was taken", x.lane(6, 7, 1, 1), 1);
        due("a new lane is open", x.laneOf(1, 4), 0);
    }

    private static void close() {
        DistrictTotals x = told("0-1*1:0;1-2*2:1;2-3*3:2");
        due("close(-1, true)", x.close(-1, true), UNKNOWN);
        due("close(3, false)", x.close(3, false), UNKNOWN);
        due("close(0, false)", x.close(0, false), NONE);
        due("close(1, true)", x.close(1, true), 2);
        due("close(1, true)", x.close(1, true), NONE);
        due("laneOf(1, 4)", x.laneOf(1, 4), 1);
        due("laneOf(1, 5)", x.laneOf(1, 5), 2);
        due("laneOf(1, 6)", x.laneOf(1, 6), 0);
        due("within(1, 1, 2)", x.within(1, 1, 2), NONE);
        x.rank(2, 0);
        x.rank(3, 0);
        due("close(2, true)", x.close(2, true), 1);
        due("close(1, false)", x.close(1, false), 2);
        due("close(2, false) of a lane without a clerk", x.close(2, false), 2);
        due("count(8)", x.count(8), 4);
        due("within(1, 1, 2)", x.within(1, 1, 2), 2);
    }

    private static void rank() {
        DistrictTotals x = told("4-9*3:2");
        due("rank(-1, 0)", x.rank(-1, 0), UNKNOWN);
        due("rank(14, 10)", x.rank(14, 10), UNKNOWN);
        due("rank(0, -1)", x.rank(0, -1), BAD_VALUE);
        due("rank(0, 10)", x.rank(0, 10), BAD_VALUE);
        due("rank(4, 1)", x.rank(4, 1), NONE);
        due("clerk of two as high", x.laneOf(0, 5), 9);
        due("rank(4, 9)", x.rank(4, 9), 1);
        due("clerk with the higher rank", x.laneOf(0, 5), 4);
        due("rank(4, 0)", x.rank(4, 0), 9);
        due("clerk with the higher rank", x.laneOf(0, 5), 9);
        due("rank(9, 0)", x.rank(9, 0), 1);
        due("no clerk", x.laneOf(0, 5), NONE);
        due("no clerk, not told", x.laneOf(0, 6), 0);
        due("no clerk, no way", x.within(2, 4, 9), NONE);
        due("rank(13, 5)", x.rank(13, 5), 1);
        due("crossingOf(13, 0)", x.crossingOf(13, 0), 5);
        due("rank(13, 5)", x.rank(13, 5), NONE);
        due("count(8)", x.count(8), 4);
    }

    private static void alley() {
        DistrictTotals x = new DistrictTotals();
        due("alley(-1, 0, 0)", x.alley(-1, 0, 0), UNKNOWN);
        due("alley(14, 21, 0)", x.alley(14, 21, 0), UNKNOWN);
        due("alley(0, 21, 4)", x.alley(0, 21, 4), UNKNOWN);
        due("alley(0, 0, -1)", x.alley(0, 0, -1), UNKNOWN);
        due("alley(0, -1, 0)", x.alley(0, -1, 0), BAD_VALUE);
        due("alley(0, 21, 0)", x.alley(0, 21, 0), BAD_VALUE);
        for (int alley = 0; alley < 12; alley++) {
            due("alley " + alley, x.alley(13 - alley, alley == 0 ? 20 : alley - 1, alley % 4), alley);
        }
        due("alley when full", x.alley(0, 0, 0), FULL);
        due("bad alley when full", x.alley(0, 21, 0), BAD_VALUE);
        due("unknown alley when full", x.alley(14, 0, 0), UNKNOWN);
        due("count(2)", x.count(2), 12);
        due("alleyOf(0, 1)", x.alleyOf(0, 1), 20);
        due("alleyOf(1, 1)", x.alleyOf(1, 1), 0);
        due("alleyOf(11, 0)", x.alleyOf(11, 0), 2);
        due("alleyOf(11, 2)", x.alleyOf(11, 2), 3);
        due("count(8)", x.count(8), 4);
    }

    private static void takeAlley() {
        DistrictTotals x = told("0-1*1:1;a0+5:1;a1+6:1;a1+7:2");
        due("takeAlley(-1)", x.takeAlley(-1), UNKNOWN);
        due("takeAlley(3)", x.takeAlley(3), UNKNOWN);
        due("total(0, 1, 0)", x.total(0, 1, 0), 7);
        due("takeAlley(0)", x.takeAlley(0), 2);
        due("alleyOf(0, 0)", x.alleyOf(0, 0), 1);
        due("alleyOf(0, 1)", x.alleyOf(0, 1), 6);
        due("alleyOf(1, 1)", x.alleyOf(1, 1), 7);
        due("alleyOf(1, 2)", x.alleyOf(1, 2), 2);
        due("total(0, 0, 0)", x.total(0, 0, 0), 7);
        due("crossingOf(0, 5)", x.crossingOf(0, 5), 7);
        due("takeAlley(1)", x.takeAlley(1), 1);
        due("takeAlley(0)", x.takeAlley(0), 0);
        due("takeAlley(0)", x.takeAlley(0), UNKNOWN);
        due("crossingOf(0, 4)", x.crossingOf(0, 4), 0);
        due("undo()", x.undo(), 3);
        due("total(0, 0, 0)", x.total(0, 0, 0), 7);
    }

    private static void tellAll() {
        DistrictTotals x = new DistrictTotals();
        due("tellAll() of the empty text", x.tellAll(), -100);
        write(x, "0-1*1:0;0-1*");
        due("tellAll() of a text with a fault", x.tellAll(), -112);
        write(x, "0-1*1:0;0-1*0:0");
        due("tellAll() of a text with a fault", x.tellAll(), -112);
        due("count(0)", x.count(0), 0);
        write(x, "0-13*20:3;a13+0:3;a0+20:1");
        due("tellAll()", x.tellAll(), 3);
        due("the text stays", x.count(9), 25);
        due("one act", x.count(8), 1);
        due("laneOf(0, 1)", x.laneOf(0, 1), 13);
        due("laneOf(0, 2)", x.laneOf(0, 2), 20);
        due("laneOf(0, 3)", x.laneOf(0, 3), 3);
        due("alleyOf(0, 0)", x.alleyOf(0, 0), 13);
        due("alleyOf(1, 1)", x.alleyOf(1, 1), 20);
        due("alleyOf(1, 2)", x.alleyOf(1, 2), 1);
        due("undo()", x.undo(), 0);
        due("count(0)", x.count(0), 0);
        write(x, "0-1*1:0;5-5*1:0");
        due("tellAll() with the same ends", x.tellAll(), BAD_VALUE);
        due("nothing of it", x.count(0), 0);
        due("no act", x.count(8), 0);
        for (int lane = 0; lane < 23; lane++) {
            x.lane(0, 1, 1, 0);
        }
        write(x, "0-1*1:0;0-1*1:0;5-5*1:0");
        due("tellAll() with too many lanes first", x.tellAll(), FULL);
        write(x, "5-5*1:0;0-1*1:0;0-1*1:0");
        due("tellAll() with the same ends first", x.tellAll(), BAD_VALUE);
        write(x, "0-1*1:0;5-5*1:0");
        due("tellAll() with the same ends when full", x.tellAll(), BAD_VALUE);
        due("count(0)", x.count(0), 23);
        write(x, "0-1*1:0;a1+1:1");
        due("tellAll() of the last lane", x.tellAll(), 2);
        due("count(0)", x.count(0), 24);
        write(x, "a1+1:1;a1+1:1;a1+1:1;a1+1:1;a1+1:1;a1+1:1;a1+1:1;a1+1:1");
        due("tellAll() of eight alleys", x.tellAll(), 8);
        due("tellAll() of too many alleys", x.tellAll(), FULL);
        due("count(2)", x.count(2), 9);
    }

    private static void type() {
        DistrictTotals x = new DistrictTotals();
        char[] signs = {'a', ' ', (char) 0, (char) 255, (char) 256, (char) 65535};
        for (int i = 0; i < 60; i++) {
            due("type " + i, x.type(signs[i % signs.length]), i + 1);
        }
        due("type when full", x.type('1'), FULL);
        due("count(9)", x.count(9), 60);
        due("no act", x.count(8), 0);
        due("clearText()", x.clearText(), 60);
        due("type", x.type('1'), 1);
    }

    private static void clearText() {
        DistrictTotals x = new DistrictTotals();
        due("clearText()", x.clearText(), 0);
        write(x, "a1+1:1");
        due("fault()", x.fault(), NONE);
        due("clearText()", x.clearText(), 6);
        due("clearText()", x.clearText(), 0);
        due("count(9)", x.count(9), 0);
        due("fault()", x.fault(), 0);
        due("no act", x.count(8), 0);
        write(x, "0");
        due("fault()", x.fault(), 1);
    }

    private static void fault() {
        Object[][] faults = {
            {"", 0}, {"0", 1}, {"0-", 2}, {"0-1", 3}, {"0-1*", 4}, {"0-1*1", 5}, {"0-1*1:", 6}, {"0-1*1:0", NONE},
            {"0-1*1:0;", 8}, {"0-1*1:0;;", 8}, {";", 0}, {"0-1*1:0,", 7}, {"0-1*1:00", 7}, {"0-1*1:10", 7},
            {"0-1*1:3", NONE}, {"0-1*1:4", 6}, {"0-1*1:9", 6}, {"0-1*20:3", NONE}, {"0-1*21:3", 5}, {"0-1*19:3", NONE},
            {"0-1*0:3", 4}, {"0-1*01:3", 4}, {"0-1*3:3", NONE}, {"0-1*30:3", 5}, {"0-1*200:3", 6}, {"0-1*100:3", 6},
            {"13-12*1:0", NONE}, {"14-1*1:0", 1}, {"20-1*1:0", 1}, {"9-9*9:0", NONE}, {"90-9*9:0", 1}, {"00-1*1:0", 1},
            {"01-1*1:0", 1}, {"0-01*1:0", 3}, {"0-14*1:0", 3}, {"0-13*1:0", NONE}, {"0-130*1:0", 4}, {"130-1*1:0", 2},
            {"a", 1}, {"a0", 2}, {"a0+", 3}, {"a0+0", 4}, {"a0+0:", 5}, {"a0+0:0", NONE}, {"a13+20:3", NONE},
            {"a14+20:3", 2}, {"a1+21:3", 4}, {"a1+00:3", 4}, {"a1+20:4", 6}, {"a1-2:3", 2}, {"0+1:3", 1}, {"A0+0:0", 0},
            {"a0+0:0;a0+0:0;0-1*1:1", NONE}, {"a0+0:0;b", 7}, {"aa0+0:0", 1}, {" a0+0:0", 0}, {"a0+0:0 ", 6},
            {"-1-1*1:0", 0}, {"0--1*1:0", 2}, {"0-1:1*0", 3}, {"0-1*1*0", 5}, {"a0+0*0", 4}, {"a0*0:0", 2},
            {"\uff10-1*1:0", 0}, {"0-1*1:0\u013b", 7}, {"0-\u00001*1:0", 2},
            {"13-12*20:3;13-12*20:3;13-12*20:3;13-12*20:3;13-12*20:3;13-12", 60},
            {"a13+20:3;a13+20:3;a13+20:3;a13+20:3;a13+20:3;a13+20:3;a1+1:1", NONE},
            {"a13+20:3;a13+20:3;a13+20:3;a13+20:3;a13+20:3;a13+20:3;a13+1;", 59}};
        DistrictTotals x = new DistrictTotals();
        for (Object[] f : faults) {
            // Nothing is promised of an object after 512 calls.
            x = new DistrictTotals();
            write(x, (String) f[0]);
            int due = (Integer) f[1];
            due("fault() of " + f[0], x.fault(), due);
            due("fault() again", x.fault(), due);
            due("the length of " + f[0], x.count(9), ((String) f[0]).length());
            if (due != NONE) {
                due("tellAll() of " + f[0], x.tellAll(), -100 - due);
            }
        }
    }

    private static void undo() {
        DistrictTotals x = new DistrictTotals();
        due("undo()", x.undo(), NONE);
        x.lane(0, 1, 1, 0);
        x.alley(1, 2, 0);
        x.rank(0, 5);
        x.close(0, true);
        due("count(8)", x.count(8), 4);
        x.takeAlley(0);
        due("count(8)", x.count(8), 4);
        x.type('a');
        x.keep();
        due("count(8)", x.count(8), 4);
        due("undo() of takeAlley", x.undo(), 3);
        due("alleyOf(0, 1)", x.alleyOf(0, 1), 2);
        due("total(0, 0, 0)", x.total(0, 0, 0), NONE);
        due("undo() of close", x.undo(), 2);
        due("total(0, 0, 0)", x.total(0, 0, 0), 3);
        due("laneOf(0, 5)", x.laneOf(0, 5), 0);
        due("undo() of rank", x.undo(), 1);
        due("laneOf(0, 5)", x.laneOf(0, 5), 1);
        due("undo() of alley", x.undo(), 0);
        due("count(2)", x.count(2), 0);
        due("count(0)", x.count(0), 1);
        due("undo() of what was dropped", x.undo(), NONE);
        due("count(0)", x.count(0), 1);
        due("the text stays", x.count(9), 1);
        due("the snapshot stays", x.restore(), 1);
        due("laneOf(0, 4)", x.laneOf(0, 4), 1);
        due("errors are no acts", x.lane(0, 0, 1, 0), BAD_VALUE);
        due("NONE is no act", x.close(0, true), NONE);
        due("count(8)", x.count(8), 1);
    }

    private static void keep() {
        DistrictTotals x = new DistrictTotals();
        due("keep()", x.keep(), 0);
        x.lane(0, 1, 1, 0);
        x.lane(0, 1, 1, 0);
        due("keep()", x.keep(), 2);
        due("no act", x.count(8), 2);
        x.rank(3, 7);
        x.takeLane(0);
        due("restore()", x.restore(), 2);
        due("crossingOf(3, 0)", x.crossingOf(3, 0), 1);
        due("undo()", x.undo(), 4 - 1);
        due("crossingOf(3, 0)", x.crossingOf(3, 0), 7);
        due("keep() in place of the one that was", x.keep(), 1);
        x.takeLane(0);
        due("restore()", x.restore(), 1);
        due("crossingOf(3, 0)", x.crossingOf(3, 0), 7);
    }

    private static void restore() {
        DistrictTotals x = new DistrictTotals();
        due("restore()", x.restore(), NONE);
        due("count(8)", x.count(8), 0);
        x.lane(0, 1, 4, 1);
        x.alley(1, 2, 1);
        x.close(0, true);
        x.keep();
        x.close(0, false);
        x.takeAlley(0);
        due("restore()", x.restore(), 1);
        due("laneOf(0, 4)", x.laneOf(0, 4), 1);
        due("count(2)", x.count(2), 1);
        due("this is an act", x.count(8), 4);
        due("undo()", x.undo(), 3);
        due("laneOf(0, 4)", x.laneOf(0, 4), 0);
        due("count(2)", x.count(2), 0);
        x.undo();
        x.undo();
        x.undo();
        due("count(8)", x.count(8), 0);
        due("restore() again", x.restore(), 1);
        due("restore() once more, to the same", x.restore(), 1);
        due("count(8)", x.count(8), 2);
        x.takeLane(0);
        due("restore(): what is changed then leaves the snapshot", x.restore(), 1);
    }

    private static void laneOf() {
        DistrictTotals x = told("9-4*17:3;1-2*1:0");
        int[] due = {9, 4, 17, 3, 0, 9, 1};
        for (int what = 0; what < 7; what++) {
            due("laneOf(0, " + what + ")", x.laneOf(0, what), due[what]);
        }
        due("laneOf(0, 7)", x.laneOf(0, 7), BAD_VALUE);
        due("laneOf(0, -1)", x.laneOf(0, -1), BAD_VALUE);
        due("laneOf(2, 7)", x.laneOf(2, 7), UNKNOWN);
        due("laneOf(-1, 0)", x.laneOf(-1, 0), UNKNOWN);
        x.rank(4, 2);
        due("laneOf(0, 5)", x.laneOf(0, 5), 4);
        x.rank(9, 3);
        due("laneOf(0, 5)", x.laneOf(0, 5), 9);
        x.close(0, true);
        due("laneOf(0, 4)", x.laneOf(0, 4), 1);
        due("laneOf(0, 5) of a closed one", x.laneOf(0, 5), 9);
        due("laneOf(0, 6)", x.laneOf(0, 6), 0);
        x.rank(1, 0);
        due("laneOf(1, 6) with one rank 0", x.laneOf(1, 6), 1);
        x.rank(2, 0);
        due("laneOf(1, 5)", x.laneOf(1, 5), NONE);
        due("laneOf(1, 6)", x.laneOf(1, 6), 0);
        due("laneOf(1, 4)", x.laneOf(1, 4), 0);
    }

    private static void alleyOf() {
        DistrictTotals x = town();
        int[] due = {4, 1, 1, 7};
        for (int what = 0; what < 4; what++) {
            due("alleyOf(0, " + what + ")", x.alleyOf(0, what), due[what]);
        }
        due("alleyOf(0, 4)", x.alleyOf(0, 4), BAD_VALUE);
        due("alleyOf(0, -1)", x.alleyOf(0, -1), BAD_VALUE);
        due("alleyOf(3, 4)", x.alleyOf(3, 4), UNKNOWN);
        due("alleyOf(-1, 0)", x.alleyOf(-1, 0), UNKNOWN);
        x.close(0, true);
        due("alleyOf(0, 3)", x.alleyOf(0, 3), 3);
        due("alleyOf(2, 3)", x.alleyOf(2, 3), 4);
    }

    private static void crossingOf() {
        DistrictTotals x = town();
        int[] zero = {1, set(0, 1), set(1), 0, 3, 6 + 24 + 8};
        int[] four = {1, set(1), 0, 1, 3, 1 + 5 + 24 + 5 + 8};
        int[] eight = {1, 0, 0, 0, 0, 0};
        for (int what = 0; what < 6; what++) {
            due("crossingOf(0, " + what + ")", x.crossingOf(0, what), zero[what]);
            due("crossingOf(4, " + what + ")", x.crossingOf(4, what), four[what]);
            due("crossingOf(8, " + what + ")", x.crossingOf(8, what), eight[what]);
        }
        due("crossingOf(0, 6)", x.crossingOf(0, 6), BAD_VALUE);
        due("crossingOf(0, -1)", x.crossingOf(0, -1), BAD_VALUE);
        due("crossingOf(14, 6)", x.crossingOf(14, 6), UNKNOWN);
        due("crossingOf(-1, 0)", x.crossingOf(-1, 0), UNKNOWN);
        x.lane(0, 7, 1, 3);
        due("crossingOf(0, 1)", x.crossingOf(0, 1), set(0, 1, 3));
        due("crossingOf(0, 2)", x.crossingOf(0, 2), set(1, 3));
        x.close(6, true);
        due("crossingOf(7, 1)", x.crossingOf(7, 1), 0);
        due("crossingOf(7, 3) of a closed lane", x.crossingOf(7, 3), 1);
        x.rank(0, 0);
        x.rank(7, 0);
        due("crossingOf(7, 3) of a lane without a clerk", x.crossingOf(7, 3), 0);
        due("crossingOf(0, 0)", x.crossingOf(0, 0), 0);
        due("crossingOf(1, 3) of the lanes 0 and 1", x.crossingOf(1, 3), 1);
        due("crossingOf(2, 3)", x.crossingOf(2, 3), 1);
    }

    private static void within() {
        DistrictTotals x = told("0-1*9:1;0-1*4:1;1-2*5:1;0-2*10:1;2-3*1:1;3-4*1:0;0-4*1:2");
        due("within(1, 0, 1)", x.within(1, 0, 1), 4);
        due("within(1, 0, 2)", x.within(1, 0, 2), 9);
        due("within(1, 3, 0)", x.within(1, 3, 0), 10);
        due("within(1, 2, 2)", x.within(1, 2, 2), 0);
        due("within(1, 4, 4)", x.within(1, 4, 4), NONE);
        due("within(1, 0, 4)", x.within(1, 0, 4), NONE);
        due("within(0, 3, 4)", x.within(0, 3, 4), 1);
        due("within(2, 4, 0)", x.within(2, 4, 0), 1);
        due("within(3, 0, 0)", x.within(3, 0, 0), NONE);
        due("within(-1, 0, 0)", x.within(-1, 0, 0), UNKNOWN);
        due("within(4, 0, 0)", x.within(4, 0, 0), UNKNOWN);
        due("within(0, -1, 0)", x.within(0, -1, 0), UNKNOWN);
        due("within(0, 0, 14)", x.within(0, 0, 14), UNKNOWN);
        x.close(1, true);
        due("within(1, 0, 1)", x.within(1, 0, 1), 9);
        due("within(1, 0, 2)", x.within(1, 0, 2), 10);
        x.lane(8, 9, 2, 1);
        due("within(1, 0, 8)", x.within(1, 0, 8), NONE);
        due("within(1, 8, 8)", x.within(1, 8, 8), 0);
        x.close(7, true);
        due("within(1, 8, 8)", x.within(1, 8, 8), NONE);
    }

    private static void total() {
        DistrictTotals x = town();
        int[][] totals = {{6, 24, 8}, {11, 19, 3}, {18, 12, 10}, {4, 26, 10}, {1, 29, 13}, {22, 8, 14}, {28, 2, 20}};
        int[][] rules = {{1, 2, 1}, {2, 2, 1}, {2, 1, 1}, {1, 3, 3}, {1, 3, 3}, {3, 1, 3}, {3, 1, 3}};
        int[][] firsts = {{3, 1, 1}, {0, 2, NONE}, {1, 5, 1}, {4, 0, 0}, {NONE, 3, 3}, {2, 6, 2}, {5, NONE, 5}};
        for (int c = 0; c < 7; c++) {
            for (int a = 0; a < 3; a++) {
                due("total(" + c + ", " + a + ", 0)", x.total(c, a, 0), totals[c][a]);
                due("total(" + c + ", " + a + ", 1)", x.total(c, a, 1), rules[c][a]);
                due("total(" + c + ", " + a + ", 2)", x.total(c, a, 2), firsts[c][a]);
                int ends = firsts[c][a] == NONE ? 0 : set(firsts[c][a]);
                due("total(" + c + ", " + a + ", 3)", x.total(c, a, 3), ends);
            }
        }
        due("total(7, 0, 0)", x.total(7, 0, 0), NONE);
        due("total(7, 0, 4)", x.total(7, 0, 4), BAD_VALUE);
        due("total(0, 0, -1)", x.total(0, 0, -1), BAD_VALUE);
        due("total(-1, 0, 4)", x.total(-1, 0, 4), UNKNOWN);
        due("total(14, 0, 0)", x.total(14, 0, 0), UNKNOWN);
        due("total(0, 3, 4)", x.total(0, 3, 4), UNKNOWN);
        due("total(0, -1, 0)", x.total(0, -1, 0), UNKNOWN);
    }

    private static void totalRules() {
        // The own way of the district is taken, though the one over the backbone is shorter.
        DistrictTotals x = told("0-1*20:1;1-2*20:1;0-2*1:0;a2+0:1");
        due("own way first", x.total(0, 0, 0), 40);
        due("own way first, rule", x.total(0, 0, 1), 1);
        due("own way first, step", x.total(0, 0, 3), set(1));
        // A crossing of the backbone that can't reach a gate there is not helped by its own district.
        x = told("0-1*1:0;2-3*1:0;0-4*1:2;4-2*1:2;2-5*1:1;a5+0:1");
        due("3 is not for the backbone", x.total(0, 0, 0), NONE);
        due("3 for a crossing beside it", x.total(4, 0, 0), 2);
        due("3 for a crossing beside it, steps", x.total(4, 0, 3), set(2));
        // By 2 there is none for an alley of the backbone, and 1 needs the alley's crossing in its district.
        x = told("0-1*1:0;2-3*1:0;a3+0:0;a4+0:1;0-4*1:2;a4+0:2");
        due("an alley of the backbone that is cut off", x.total(0, 0, 0), NONE);
        due("an alley at a crossing outside of its district", x.total(4, 1, 0), NONE);
        due("an alley at a gate's neighbour", x.total(1, 2, 0), 2);
        // Steps to several gates as near, and over several districts as near.
        x = told("0-1*1:0;0-2*1:0;1-3*2:1;2-3*2:1;a3+0:1", "0-4*5:2;4-5*1:2;0-5*6:3;4-6*1:2;6-5*1:2");
        due("two gates as near, total", x.total(0, 0, 0), 3);
        due("two gates as near, first step", x.total(0, 0, 2), 1);
        due("two gates as near, steps", x.total(0, 0, 3), set(1, 2));
        due("two districts as near, total", x.total(5, 0, 0), 9);
        due("two districts as near, steps", x.total(5, 0, 3), set(0, 4));
        x.takeLane(6);
        due("one district", x.total(5, 0, 3), set(4));
        // 3 for the crossing 0, and what was a gate is none any more.
        x = told("1-2*1:0;0-1*1:2;2-3*1:1;a3+0:1");
        due("3 for the crossing 0", x.total(0, 0, 0), 3);
        due("3 for the crossing 0, rule", x.total(0, 0, 1), 3);
        due("2 for the gate", x.total(1, 0, 0), 2);
        x.close(0, true);
        due("2 is no gate any more", x.total(0, 0, 0), NONE);
        due("2 is in the district still", x.total(2, 0, 0), 1);
        x.lane(1, 4, 1, 0);
        due("a gate of another part of the backbone", x.total(0, 0, 0), NONE);
        due("a gate of another part of the backbone", x.total(1, 0, 0), NONE);
        // A gate's total by 1 is used by 3, though that gate's sum by 2 would be less.
        x = told("0-1*1:0;0-2*20:1;2-1*20:1;1-3*1:1;a3+0:1;0-9*1:2");
        due("total of the gate", x.total(0, 0, 0), 41);
        due("3 on the total of the gate by 1", x.total(9, 0, 0), 42);
    }

    private static void walk() {
        DistrictTotals x = town();
        due("walk(6, 0, 0)", x.walk(6, 0, 0), 6);
        due("walk(6, 0, 1)", x.walk(6, 0, 1), 28);
        due("walk(6, 0, 2)", x.walk(6, 0, 2), set(0, 1, 2, 3, 4, 5, 6));
        due("walk(4, 0, 0)", x.walk(4, 0, 0), 0);
        due("walk(4, 0, 1)", x.walk(4, 0, 1), 1);
        due("walk(4, 0, 2)", x.walk(4, 0, 2), set(4));
        due("walk(7, 0, 0)", x.walk(7, 0, 0), NONE);
        due("walk(7, 0, 3)", x.walk(7, 0, 3), BAD_VALUE);
        due("walk(0, 0, -1)", x.walk(0, 0, -1), BAD_VALUE);
        due("walk(14, 0, 3)", x.walk(14, 0, 3), UNKNOWN);
        due("walk(-1, 0, 0)", x.walk(-1, 0, 0), UNKNOWN);
        due("walk(0, 3, 3)", x.walk(0, 3, 3), UNKNOWN);
        due("walk(0, -1, 0)", x.walk(0, -1, 0), UNKNOWN);
        // On the way to a gate within its district the walk comes to another gate, that has no way on.
        x = told("0-1*1:0;2-3*1:0;4-0*1:2;0-2*1:2;2-5*1:1;a5+0:1");
        due("total over a gate that is cut off", x.total(4, 0, 0), 3);
        due("walk over a gate that is cut off", x.walk(4, 0, 0), NONE);
        x = told("5-6*1:0;2-3*1:0;4-5*1:2;5-2*1:2;2-1*1:1;a1+0:1");
        due("total over a gate that is cut off", x.total(4, 0, 0), 3);
        due("walk over a gate that is cut off, and leads on", x.walk(4, 0, 0), NONE);
        // The walk, on a crossing with an own way, leaves the way that the total told.
        x = told("0-1*1:0;1-2*1:0;1-3*20:1;3-2*10:1;a2+0:1;a3+7:1");
        due("total(0, 0, 0)", x.total(0, 0, 0), 2);
        due("walk(0, 0, 1)", x.walk(0, 0, 1), 31);
        due("walk(0, 0, 0)", x.walk(0, 0, 0), 3);
        due("walk(0, 0, 2)", x.walk(0, 0, 2), set(0, 1, 2, 3));
        due("walk(0, 1, 1)", x.walk(0, 1, 1), 28);
        // Two lanes, of two districts, that are steps to the same crossing: the shorter one counts. From there
        // the other district leads on, so that the walk is shorter than the total.
        x = told("0-1*1:0;0-4*2:1;a4+0:1", "7-8*3:2;7-8*5:3;8-0*4:2;8-1*1:3");
        due("total(7, 0, 0)", x.total(7, 0, 0), 9);
        due("total(7, 0, 3)", x.total(7, 0, 3), set(8));
        due("walk(7, 0, 1)", x.walk(7, 0, 1), 3 + 1 + 1 + 2);
        x = told("0-1*1:0;0-4*2:1;a4+0:1", "7-8*5:3;7-8*3:2;8-0*4:2;8-1*1:3");
        due("walk(7, 0, 1) with the lanes in another order", x.walk(7, 0, 1), 3 + 1 + 1 + 2);
    }

    private static void shortest() {
        DistrictTotals x = told("0-1*20:1;1-2*20:1;0-2*3:2;a2+4:1;a9+0:3;2-3*1:3");
        due("shortest(0, 0)", x.shortest(0, 0), 7);
        due("shortest(1, 0)", x.shortest(1, 0), 24);
        due("shortest(3, 0)", x.shortest(3, 0), 5);
        due("shortest(2, 0)", x.shortest(2, 0), 4);
        due("shortest(9, 1)", x.shortest(9, 1), 0);
        due("shortest(0, 1)", x.shortest(0, 1), NONE);
        due("shortest(-1, 0)", x.shortest(-1, 0), UNKNOWN);
        due("shortest(14, 0)", x.shortest(14, 0), UNKNOWN);
        due("shortest(0, 2)", x.shortest(0, 2), UNKNOWN);
        due("shortest(0, -1)", x.shortest(0, -1), UNKNOWN);
        x.close(2, true);
        due("shortest(0, 0)", x.shortest(0, 0), 44);
        x.rank(1, 0);
        x.rank(2, 0);
        due("shortest(0, 0)", x.shortest(0, 0), NONE);
    }

    private static void stretch() {
        DistrictTotals x = told("0-1*20:1;1-2*20:1;0-2*3:2;a2+0:1;a9+0:3;a2+4:1");
        due("stretch(0, 0)", x.stretch(0, 0), 40.0f / 3.0f);
        due("stretch(0, 2)", x.stretch(0, 2), 44.0f / 7.0f);
        due("stretch(2, 2)", x.stretch(2, 2), 1.0f);
        due("stretch(2, 0)", x.stretch(2, 0), 1.0f);
        due("stretch(9, 1)", x.stretch(9, 1), -1.0f);
        due("stretch(9, 0)", x.stretch(9, 0), -1.0f);
        due("stretch(14, 0)", x.stretch(14, 0), -1.0f);
        due("stretch(-1, 0)", x.stretch(-1, 0), -1.0f);
        due("stretch(0, 3)", x.stretch(0, 3), -1.0f);
        due("stretch(0, -1)", x.stretch(0, -1), -1.0f);
        x.takeAlley(2);
        due("stretch(2, 2) of one that was taken", x.stretch(2, 2), -1.0f);
        x = told("0-1*20:1;1-2*20:1;0-2*1:2;a2+0:1");
        due("stretch(0, 0)", x.stretch(0, 0), 40.0f);
    }

    private static void count() {
        DistrictTotals x = town();
        x.lane(7, 8, 2, 3);
        x.lane(0, 6, 1, 3);
        x.close(7, true);
        x.alley(8, 0, 3);
        x.type('a');
        int[] due = {8, 7, 4, 2, 21 + 2, 6 + 7, 0, 0, 4, 20 + 1};
        for (int what = 0; what < 10; what++) {
            due("count(" + what + ")", x.count(what), due[what]);
        }
        due("count(10)", x.count(10), BAD_VALUE);
        due("count(-1)", x.count(-1), BAD_VALUE);
        x.close(7, false);
        x.close(0, true);
        due("count(3) when 0 is not in the backbone", x.count(3), 1);
        due("count(4) then", x.count(4), 3 + 4 + 4 + 2);
        due("count(5) then", x.count(5), 9 * 4 - 13);
        // Over 6 and 0, within the district 3 that has no gate, leads a way that no rule takes.
        due("count(6) then", x.count(6), 9 * 4 - 13 - 2 * 3 - 7);
        x.close(0, false);
        due("count(3): a gate of two districts is one", x.count(3), 2);
        x = told("0-1*20:1;1-2*20:1;0-2*3:2;a2+0:1");
        due("count(7)", x.count(7), 1);
        due("count(3)", x.count(3), 0);
    }

    private static void ifClosed() {
        DistrictTotals x = town();
        due("ifClosed(0, 0)", x.ifClosed(0, 0), 21 - 3 - 4 - 4);
        due("ifClosed(0, 1)", x.ifClosed(0, 1), 0);
        due("ifClosed(0, 3)", x.ifClosed(0, 3), BAD_VALUE);
        due("ifClosed(0, -1)", x.ifClosed(0, -1), BAD_VALUE);
        due("ifClosed(6, 3)", x.ifClosed(6, 3), UNKNOWN);
        due("ifClosed(-1, 0)", x.ifClosed(-1, 0), UNKNOWN);
        x.lane(0, 1, 9, 0);
        due("ifClosed(0, 0) beside another", x.ifClosed(0, 0), 0);
        due("ifClosed(0, 1) beside another", x.ifClosed(0, 1), 10);
        due("ifClosed(0, 2) beside another", x.ifClosed(0, 2), 0);
        due("ifClosed(6, 1) of the longer one", x.ifClosed(6, 1), 0);
        x.close(0, true);
        due("ifClosed(0, 0) of a closed one", x.ifClosed(0, 0), 0);
        due("ifClosed(0, 3) of a closed one", x.ifClosed(0, 3), BAD_VALUE);
        due("nothing is changed", x.laneOf(6, 4), 0);
        // Without the own way the shorter way over the backbone is taken.
        x = told("0-1*20:1;1-2*20:1;0-2*1:0;a2+0:1;1-3*1:1");
        due("ifClosed(0, 2)", x.ifClosed(0, 2), 1);
        due("ifClosed(0, 1)", x.ifClosed(0, 1), 0);
        due("ifClosed(0, 0)", x.ifClosed(0, 0), 0);
        x.lane(0, 4, 1, 1);
        due("ifClosed(0, 2)", x.ifClosed(0, 2), 2);
        due("ifClosed(0, 0)", x.ifClosed(0, 0), 0);
        // Without its lane of the backbone the crossing 0 has a total, by 3, that it did not have.
        x = told("0-1*1:0;2-3*1:0;0-4*1:2;4-2*1:2;2-5*1:1;a5+0:1");
        for (int what = 0; what < 3; what++) {
            due("ifClosed(0, " + what + ") by which one is won", x.ifClosed(0, what), 0);
        }
        // What was taken away counts no more.
        x = told("0-1*1:1;1-2*1:1;0-1*3:1;a1+0:1;a1+0:1");
        due("ifClosed(0, 1)", x.ifClosed(0, 1), 2);
        due("ifClosed(1, 0)", x.ifClosed(1, 0), 2);
        x.takeAlley(1);
        due("ifClosed(0, 1) with an alley less", x.ifClosed(0, 1), 1);
        due("ifClosed(1, 0) with an alley less", x.ifClosed(1, 0), 1);
        x.takeLane(2);
        due("ifClosed(0, 0) with a lane less", x.ifClosed(0, 0), 1);
    }

    private static void weakest() {
        due("weakest() without lanes", new DistrictTotals().weakest(), NONE);
        DistrictTotals x = told("0-1*1:0");
        due("weakest() without alleys", x.weakest(), NONE);
        x = town();
        due("weakest()", x.weakest(), 0);
        x.lane(0, 1, 6, 0);
        due("weakest() with a second lane there", x.weakest(), 1);
        x = told("5-6*1:3;0-1*1:1;0-1*2:1;a0+0:1;1-2*1:2");
        due("weakest(): greater totals alone", x.weakest(), 1);
        x = told("0-1*2:1;0-1*1:1;0-1*1:1;a0+0:1");
        due("weakest() by which nothing changes", x.weakest(), NONE);
        x = told("0-1*1:1;2-3*1:2;a0+0:1;a2+0:2");
        due("weakest(): of several the lowest", x.weakest(), 0);
        x = told("0-1*1:1;0-1*5:1;2-3*1:2;2-3*5:2;3-4*1:2;a0+0:1;a2+0:2", "a4+0:3");
        due("weakest(): one that is lost before many that are greater", x.weakest(), 4);
        x.takeLane(4);
        x.alley(3, 0, 2);
        due("weakest(): the most that are greater", x.weakest(), 2);
        x = told("0-1*1:1;0-1*5:1;2-3*1:2;2-3*5:2;a0+0:1;a1+0:1;a2+0:2");
        due("weakest(): the most that are greater come first", x.weakest(), 0);
    }

    private static void bestGate() {
        DistrictTotals x = town();
        due("bestGate(0, 0)", x.bestGate(0, 0), UNKNOWN);
        due("bestGate(4, 3)", x.bestGate(4, 3), UNKNOWN);
        due("bestGate(-1, 0)", x.bestGate(-1, 0), UNKNOWN);
        due("bestGate(1, 3)", x.bestGate(1, 3), BAD_VALUE);
        due("bestGate(1, -1)", x.bestGate(1, -1), BAD_VALUE);
        due("bestGate(1, 0) when all have totals", x.bestGate(1, 0), NONE);
        due("bestGate(3, 2) of an empty district", x.bestGate(3, 2), NONE);
        // The district 3 has no gate; its alley's crossing is 9, and a second part of it is 10-11.
        x.lane(8, 9, 3, 3);
        x.alley(9, 0, 3);
        x.lane(10, 11, 1, 3);
        due("bestGate(3, 0)", x.bestGate(3, 0), 0);
        due("bestGate(3, 1)", x.bestGate(3, 1), 8);
        due("bestGate(3, 2)", x.bestGate(3, 2), 7 + 2 * 3);
        due("nothing is changed", x.count(0), 8);
    }

    private static void bestGateRanks() {
        // When 0 and 2 are of the rank 0, no lane between these two would be told.
        DistrictTotals x = told("0-1*1:0;2-3*1:1;a3+0:1");
        due("bestGate(1, 0)", x.bestGate(1, 0), 0);
        due("bestGate(1, 1)", x.bestGate(1, 1), 2);
        due("bestGate(1, 2)", x.bestGate(1, 2), 2);
        x.rank(0, 0);
        x.rank(2, 0);
        due("bestGate(1, 0) with ranks", x.bestGate(1, 0), 0);
        due("bestGate(1, 1) with ranks", x.bestGate(1, 1), 3);
        x = told("1-2*1:0;0-3*1:1;a3+0:1");
        due("bestGate(1, 0) to the crossing 0", x.bestGate(1, 0), 1);
        due("bestGate(1, 1) to the crossing 0", x.bestGate(1, 1), 0);
        // The most come before the lowest: 4 reaches more of the backbone than 0.
        x = told("0-1*1:0;4-5*1:0;5-6*1:0;2-3*1:1;a3+0:1");
        due("bestGate(1, 0) of the most", x.bestGate(1, 0), 4);
        due("bestGate(1, 2) of the most", x.bestGate(1, 2), 3);
        // The rows of lanes are full, and yet it is told what one more would give.
        x = told("0-1*1:0;2-3*1:1;a3+0:1");
        for (int lane = 2; lane < 24; lane++) {
            x.lane(0, 1, 2, 0);
        }
        due("count(0)", x.count(0), 24);
        due("bestGate(1, 2) when there is no room", x.bestGate(1, 2), 2);
    }

    private static void run(int number) {
        promise = number;
        switch (number) {
            case 1: newObject(); break;
            case 2: lane(); break;
            case 3: takeLane(); break;
            case 4: close(); break;
            case 5: rank(); break;
            case 6: alley(); break;
            case 7: takeAlley(); break;
            case 8: tellAll(); break;
            case 9: type(); break;
            case 10: clearText(); break;
            case 11: fault(); break;
            case 12: undo(); break;
            case 13: keep(); break;
            case 14: restore(); break;
            case 15: laneOf(); break;
            case 16: alleyOf(); break;
            case 17: crossingOf(); break;
            case 18: within(); break;
            case 19: total(); totalRules(); break;
            case 20: walk(); break;
            case 21: shortest(); break;
            case 22: stretch(); break;
            case 23: count(); break;
            case 24: ifClosed(); break;
            case 25: weakest(); break;
            default: bestGate(); bestGateRanks(); break;
        }
    }

    public static void main(String[] args) {
        for (int number = 1; number <= 26; number++) {
            run(number);
        }
        System.out.println(checks + " answers to 26 promises, " + wrong + " not as due");
        if (wrong != 0) {
            System.exit(1);
        }
    }
}
