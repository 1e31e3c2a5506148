import java.util.ArrayList;
import java.util.LinkedList;
import java.util.List;
import java.util.TreeSet;
import java.util.regex.Matcher;
import java.util.regex.Pattern;

/**
 * The document once more, as slow and as near to its words as can be, to compare the program with.
 * It shares no code with the program; null stands for what there is not.
 */
final class Reference {
    static final int UNKNOWN = -1;
    static final int BAD_VALUE = -2;
    static final int FULL = -3;
    static final int NONE = -5;

    static final class Lane {
        int one;
        int other;
        int length;
        int district;
        boolean closed;

        Lane(int one, int other, int length, int district, boolean closed) {
            this.one = one;
            this.other = other;
            this.length = length;
            this.district = district;
            this.closed = closed;
        }

        int from(int end) {
            return end == one ? other : one;
        }
    }

    static final class Alley {
        int crossing;
        int length;
        int district;

        Alley(int crossing, int length, int district) {
            this.crossing = crossing;
            this.length = length;
            this.district = district;
        }
    }

    static final class State {
        int[] rank = new int[14];
        List<Lane> lanes = new ArrayList<>();
        List<Alley> alleys = new ArrayList<>();
        // What was asked is kept: a state is changed only while it is a new copy, of which nothing has been asked.
        Integer[][][] way = null;
        boolean[][] in = null;

        State() {
            java.util.Arrays.fill(rank, 1);
        }

        State copy() {
            State copy = new State();
            copy.rank = rank.clone();
            for (Lane l : lanes) {
                copy.lanes.add(new Lane(l.one, l.other, l.length, l.district, l.closed));
            }
            for (Alley a : alleys) {
                copy.alleys.add(new Alley(a.crossing, a.length, a.district));
            }
            return copy;
        }

        int clerk(Lane l) {
            if (rank[l.one] == 0 && rank[l.other] == 0) {
                return NONE;
            }
            if (rank[l.one] != rank[l.other]) {
                return rank[l.one] > rank[l.other] ? l.one : l.other;
            }
            return l.one > l.other ? l.one : l.other;
        }

        boolean told(Lane l) {
            return !l.closed && clerk(l) != NONE;
        }

        boolean in(int district, int crossing) {
            if (in == null) {
                in = new boolean[4][14];
                for (Lane l : lanes) {
                    in[l.district][l.one] |= told(l);
                    in[l.district][l.other] |= told(l);
                }
            }
            return in[district][crossing];
        }

        boolean gate(int district, int crossing) {
            return district >= 1 && in(district, crossing) && in(0, crossing);
        }

        /** By growing a list of settled crossings; the district 4 takes the lanes of all. */
        private Integer[] waysFrom(int district, int start) {
            Integer[] best = new Integer[14];
            if (district != 4 && !in(district, start)) {
                return best;
            }
            best[start] = 0;
            LinkedList<Integer> todo = new LinkedList<>();
            todo.add(start);
            while (!todo.isEmpty()) {
                int here = todo.removeFirst();
                for (Lane l : lanes) {
                    if (!told(l) || (district != 4 && l.district != district) || (l.one != here && l.other != here)) {
                        continue;
                    }
                    int next = l.from(here);
                    int sum = best[here] + l.length;
                    if (best[next] == null || best[next] > sum) {
                        best[next] = sum;
                        todo.add(next);
                    }
                }
            }
            return best;
        }

        Integer way(int district, int one, int other) {
            if (way == null) {
                way = new Integer[5][14][];
                for (int d = 0; d < 5; d++) {
                    for (int c = 0; c < 14; c++) {
                        way[d][c] = waysFrom(d, c);
                    }
                }
            }
            return way[district][one][other];
        }

        Integer byOne(int crossing, Alley a) {
            Integer w = way(a.district, crossing, a.crossing);
            return in(a.district, crossing) && w != null ? Integer.valueOf(w + a.length) : null;
        }

        Integer byTwo(int crossing, Alley a) {
            if (!in(0, crossing)) {
                return null;
            }
            Integer least = null;
            for (int g = 0; g < 14; g++) {
                if (gate(a.district, g)) {
                    least = min(least, plus(plus(way(0, crossing, g), way(a.district, g, a.crossing)), a.length));
                }
            }
            return least;
        }

        Integer byThree(int crossing, Alley a) {
            Integer least = null;
            for (int d = 1; d <= 3; d++) {
                for (int g = 0; g < 14; g++) {
                    if (in(d, crossing) && gate(d, g)) {
                        least = min(least, plus(way(d, crossing, g), atGate(g, a)));
                    }
                }
            }
            return least;
        }

        Integer atGate(int g, Alley a) {
            return byOne(g, a) != null ? byOne(g, a) : byTwo(g, a);
        }

        int rule(int crossing, Alley a) {
            if (byOne(crossing, a) != null) {
                return 1;
            }
            if (in(0, crossing)) {
                return byTwo(crossing, a) != null ? 2 : 0;
            }
            return byThree(crossing, a) != null ? 3 : 0;
        }

        Integer total(int crossing, Alley a) {
            switch (rule(crossing, a)) {
                case 1:
                    return byOne(crossing, a);
                case 2:
                    return byTwo(crossing, a);
                case 3:
                    return byThree(crossing, a);
                default:
                    return null;
            }
        }

        /** All totals, a row for each crossing. */
        Integer[][] totals() {
            Integer[][] all = new Integer[14][alleys.size()];
            for (int c = 0; c < 14; c++) {
                for (int a = 0; a < alleys.size(); a++) {
                    all[c][a] = total(c, alleys.get(a));
                }
            }
            return all;
        }

        boolean leads(int district, Lane l, int crossing, int goal) {
            Integer whole = way(district, crossing, goal);
            Integer rest = plus(way(district, l.from(crossing), goal), l.length);
            return l.district == district && whole != null && whole.equals(rest);
        }

        boolean step(Lane l, int crossing, Alley a) {
            if (!told(l) || (l.one != crossing && l.other != crossing)) {
                return false;
            }
            int rule = rule(crossing, a);
            if (rule == 1) {
                return crossing != a.crossing && leads(a.district, l, crossing, a.crossing);
            }
            Integer total = total(crossing, a);
            for (int g = 0; g < 14; g++) {
                if (rule == 2 && gate(a.district, g) && leads(0, l, crossing, g) && total.equals(
                        plus(plus(way(0, crossing, g), way(a.district, g, a.crossing)), a.length))) {
                    return true;
                }
                for (int d = 1; d <= 3; d++) {
                    if (rule == 3 && gate(d, g) && leads(d, l, crossing, g)
                            && total.equals(plus(way(d, crossing, g), atGate(g, a)))) {
                        return true;
                    }
                }
            }
            return false;
        }

        TreeSet<Integer> stepEnds(int crossing, Alley a) {
            TreeSet<Integer> ends = new TreeSet<>();
            for (Lane l : lanes) {
                if (step(l, crossing, a)) {
                    ends.add(l.from(crossing));
                }
            }
            return ends;
        }

        Integer shortest(int crossing, Alley a) {
            return plus(way(4, crossing, a.crossing), a.length);
        }
    }

    State state = new State();
    State snapshot = null;
    LinkedList<State> history = new LinkedList<>();
    StringBuilder text = new StringBuilder();

    static Integer plus(Integer a, Integer b) {
        return a == null || b == null ? null : Integer.valueOf(a + b);
    }

    static Integer min(Integer a, Integer b) {
        return a == null ? b : b == null ? a : Integer.valueOf(Math.min(a, b));
    }

    static int orNone(Integer a) {
        return a == null ? NONE : a;
    }

    static boolean crossing(int c) {
        return c >= 0 && c <= 13;
    }

    static boolean district(int d) {
        return d >= 0 && d <= 3;
    }

    boolean laneThere(int lane) {
        return lane >= 0 && lane < state.lanes.size();
    }

    boolean alleyThere(int alley) {
        return alley >= 0 && alley < state.alleys.size();
    }

    void act(State next) {
        history.addLast(state);
        if (history.size() > 4) {
            history.removeFirst();
        }
        state = next;
    }

    static int tryLane(State s, int one, int other, int length, int district) {
        if (!crossing(one) || !crossing(other) || !district(district)) {
            return UNKNOWN;
        }
        if (length < 1 || length > 20 || one == other) {
            return BAD_VALUE;
        }
        if (s.lanes.size() == 24) {
            return FULL;
        }
        s.lanes.add(new Lane(one, other, length, district, false));
        return s.lanes.size() - 1;
    }

    static int tryAlley(State s, int crossing, int length, int district) {
        if (!crossing(crossing) || !district(district)) {
            return UNKNOWN;
        }
        if (length < 0 || length > 20) {
            return BAD_VALUE;
        }
        if (s.alleys.size() == 12) {
            return FULL;
        }
        s.alleys.add(new Alley(crossing, length, district));
        return s.alleys.size() - 1;
    }

    int lane(int one, int other, int length, int district) {
        State next = state.copy();
        int answer = tryLane(next, one, other, length, district);
        if (answer >= 0) {
            act(next);
        }
        return answer;
    }

    int takeLane(int lane) {
        if (!laneThere(lane)) {
            return UNKNOWN;
        }
        State next = state.copy();
        next.lanes.remove(lane);
        act(next);
        return state.lanes.size();
    }

    int close(int lane, boolean closed) {
        if (!laneThere(lane)) {
            return UNKNOWN;
        }
        if (state.lanes.get(lane).closed == closed) {
            return NONE;
        }
        State next = state.copy();
        next.lanes.get(lane).closed = closed;
        act(next);
        return count(1);
    }

    int rank(int crossing, int rank) {
        if (!crossing(crossing)) {
            return UNKNOWN;
        }
        if (rank < 0 || rank > 9) {
            return BAD_VALUE;
        }
        int before = state.rank[crossing];
        if (before == rank) {
            return NONE;
        }
        State next = state.copy();
        next.rank[crossing] = rank;
        act(next);
        return before;
    }

    int alley(int crossing, int length, int district) {
        State next = state.copy();
        int answer = tryAlley(next, crossing, length, district);
        if (answer >= 0) {
            act(next);
        }
        return answer;
    }

    int takeAlley(int alley) {
        if (!alleyThere(alley)) {
            return UNKNOWN;
        }
        State next = state.copy();
        next.alleys.remove(alley);
        act(next);
        return state.alleys.size();
    }

    static final String CROSSING = "(0|[1-9]|1[0-3])";
    static final String LANE_PART = CROSSING + "-" + CROSSING + "\\*([1-9]|1[0-9]|20):([0-3])";
    static final String ALLEY_PART = "a" + CROSSING + "\\+(0|[1-9]|1[0-9]|20):([0-3])";
    static final String PART = "(" + LANE_PART + "|" + ALLEY_PART + ")";
    static final Pattern TEXT = Pattern.compile(PART + "(;" + PART + ")*");

    /** A start of a text is allowed if it is a text or if more characters could make it one. */
    static boolean allowed(String start) {
        Matcher m = TEXT.matcher(start);
        return m.matches() || m.hitEnd();
    }

    int fault() {
        for (int end = 1; end <= text.length(); end++) {
            if (!allowed(text.substring(0, end))) {
                return end - 1;
            }
        }
        return TEXT.matcher(text).matches() ? NONE : text.length();
    }

    int tellAll() {
        int fault = fault();
        if (fault != NONE) {
            return -100 - fault;
        }
        State next = state.copy();
        String[] parts = text.toString().split(";");
        for (String part : parts) {
            String[] numbers = part.replace("a", "").split("[-*:+]");
            int first = Integer.parseInt(numbers[0]);
            int second = Integer.parseInt(numbers[1]);
            int third = Integer.parseInt(numbers[2]);
            int answer = part.startsWith("a") ? tryAlley(next, first, second, third)
                    : tryLane(next, first, second, third, Integer.parseInt(numbers[3]));
            if (answer < 0) {
                return answer;
            }
        }
        act(next);
        return parts.length;
    }

    int type(char character) {
        if (text.length() == 60) {
            return FULL;
        }
        text.append(character);
        return text.length();
    }

    int clearText() {
        int length = text.length();
        text = new StringBuilder();
        return length;
    }

    int undo() {
        if (history.isEmpty()) {
            return NONE;
        }
        state = history.removeLast();
        return history.size();
    }

    int keep() {
        snapshot = state.copy();
        return state.lanes.size();
    }

    int restore() {
        if (snapshot == null) {
            return NONE;
        }
        act(snapshot.copy());
        return state.lanes.size();
    }

    int laneOf(int lane, int what) {
        if (!laneThere(lane)) {
            return UNKNOWN;
        }
        Lane l = state.lanes.get(lane);
        int[] all = {l.one, l.other, l.length, l.district, l.closed ? 1 : 0, state.clerk(l), state.told(l) ? 1 : 0};
        return what < 0 || what >= all.length ? BAD_VALUE : all[what];
    }

    int alleyOf(int alley, int what) {
        if (!alleyThere(alley)) {
            return UNKNOWN;
        }
        Alley a = state.alleys.get(alley);
        int reached = 0;
        for (int c = 0; c < 14; c++) {
            reached += state.total(c, a) != null ? 1 : 0;
        }
        int[] all = {a.crossing, a.length, a.district, reached};
        return what < 0 || what >= all.length ? BAD_VALUE : all[what];
    }

    int crossingOf(int crossing, int what) {
        if (!crossing(crossing)) {
            return UNKNOWN;
        }
        int in = 0;
        int gates = 0;
        for (int d = 0; d < 4; d++) {
            in |= state.in(d, crossing) ? 1 << d : 0;
            gates |= state.gate(d, crossing) ? 1 << d : 0;
        }
        int clerk = 0;
        for (Lane l : state.lanes) {
            clerk += state.clerk(l) == crossing ? 1 : 0;
        }
        int totals = 0;
        int sum = 0;
        for (Alley a : state.alleys) {
            Integer total = state.total(crossing, a);
            totals += total != null ? 1 : 0;
            sum += total != null ? total : 0;
        }
        int[] all = {state.rank[crossing], in, gates, clerk, totals, sum};
        return what < 0 || what >= all.length ? BAD_VALUE : all[what];
    }

    int within(int district, int one, int other) {
        if (!district(district) || !crossing(one) || !crossing(other)) {
            return UNKNOWN;
        }
        return orNone(state.way(district, one, other));
    }

    int total(int crossing, int alley, int what) {
        if (!crossing(crossing) || !alleyThere(alley)) {
            return UNKNOWN;
        }
        if (what < 0 || what > 3) {
            return BAD_VALUE;
        }
        Alley a = state.alleys.get(alley);
        Integer total = state.total(crossing, a);
        if (total == null) {
            return NONE;
        }
        TreeSet<Integer> ends = state.stepEnds(crossing, a);
        int set = 0;
        for (int end : ends) {
            set |= 1 << end;
        }
        return new int[] {total, state.rule(crossing, a), ends.isEmpty() ? NONE : ends.first(), set}[what];
    }

    int walk(int crossing, int alley, int what) {
        if (!crossing(crossing) || !alleyThere(alley)) {
            return UNKNOWN;
        }
        if (what < 0 || what > 2) {
            return BAD_VALUE;
        }
        Alley a = state.alleys.get(alley);
        int here = crossing;
        int steps = 0;
        int length = a.length;
        int passed = 1 << here;
        while (!(here == a.crossing && state.rule(here, a) == 1)) {
            TreeSet<Integer> ends = state.stepEnds(here, a);
            if (ends.isEmpty() || steps == 30) {
                return NONE;
            }
            int next = ends.first();
            Integer shortest = null;
            for (Lane l : state.lanes) {
                if (state.step(l, here, a) && l.from(here) == next) {
                    shortest = min(shortest, l.length);
                }
            }
            length += shortest;
            here = next;
            passed |= 1 << here;
            steps++;
        }
        return new int[] {steps, length, passed}[what];
    }

    int shortest(int crossing, int alley) {
        if (!crossing(crossing) || !alleyThere(alley)) {
            return UNKNOWN;
        }
        return orNone(state.shortest(crossing, state.alleys.get(alley)));
    }

    float stretch(int crossing, int alley) {
        if (!crossing(crossing) || !alleyThere(alley)) {
            return -1.0f;
        }
        Alley a = state.alleys.get(alley);
        Integer total = state.total(crossing, a);
        if (total == null) {
            return -1.0f;
        }
        int shortest = state.shortest(crossing, a);
        return total == 0 && shortest == 0 ? 1.0f : (float) total / (float) shortest;
    }

    int count(int what) {
        int toldLanes = 0;
        for (Lane l : state.lanes) {
            toldLanes += state.told(l) ? 1 : 0;
        }
        int gates = 0;
        int[] pairs = new int[4];
        for (int c = 0; c < 14; c++) {
            gates += state.gate(1, c) || state.gate(2, c) || state.gate(3, c) ? 1 : 0;
            for (Alley a : state.alleys) {
                if (!state.in(0, c) && !state.in(1, c) && !state.in(2, c) && !state.in(3, c)) {
                    continue;
                }
                Integer total = state.total(c, a);
                Integer shortest = state.shortest(c, a);
                pairs[0] += total != null ? 1 : 0;
                pairs[1] += total == null ? 1 : 0;
                pairs[2] += total == null && shortest != null ? 1 : 0;
                pairs[3] += total != null && total > shortest ? 1 : 0;
            }
        }
        int[] all = {state.lanes.size(), toldLanes, state.alleys.size(), gates, pairs[0], pairs[1], pairs[2],
            pairs[3], history.size(), text.length()};
        return what < 0 || what >= all.length ? BAD_VALUE : all[what];
    }

    int[] changes(Integer[][] before, int lane) {
        State then = state.copy();
        then.lanes.get(lane).closed = true;
        Integer[][] after = then.totals();
        int[] all = new int[3];
        for (int c = 0; c < 14; c++) {
            for (int a = 0; a < state.alleys.size(); a++) {
                if (before[c][a] == null) {
                    continue;
                }
                all[0] += after[c][a] == null ? 1 : 0;
                all[1] += after[c][a] != null && after[c][a] > before[c][a] ? 1 : 0;
                all[2] += after[c][a] != null && after[c][a] < before[c][a] ? 1 : 0;
            }
        }
        return all;
    }

    int ifClosed(int lane, int what) {
        if (!laneThere(lane)) {
            return UNKNOWN;
        }
        if (what < 0 || what > 2) {
            return BAD_VALUE;
        }
        return state.told(state.lanes.get(lane)) ? changes(state.totals(), lane)[what] : 0;
    }

    int weakest() {
        Integer[][] before = state.totals();
        int best = NONE;
        int most = 0;
        for (int lane = 0; lane < state.lanes.size(); lane++) {
            if (!state.told(state.lanes.get(lane))) {
                continue;
            }
            int[] changes = changes(before, lane);
            int weight = changes[0] * 1000 + changes[1];
            if (weight > most) {
                most = weight;
                best = lane;
            }
        }
        return best;
    }

    int bestGate(int district, int what) {
        if (district < 1 || district > 3) {
            return UNKNOWN;
        }
        if (what < 0 || what > 2) {
            return BAD_VALUE;
        }
        Integer[][] before = state.totals();
        int[] best = {NONE, NONE, 0};
        for (int gate = 0; gate < 14; gate++) {
            for (int end = 0; end < 14; end++) {
                if (!state.in(0, gate) || state.in(district, gate) || !state.in(district, end)) {
                    continue;
                }
                State then = state.copy();
                then.lanes.add(new Lane(gate, end, 1, district, false));
                Integer[][] after = then.totals();
                int won = 0;
                for (int c = 0; c < 14; c++) {
                    for (int a = 0; a < state.alleys.size(); a++) {
                        won += before[c][a] == null && after[c][a] != null ? 1 : 0;
                    }
                }
                if (won > best[2]) {
                    best = new int[] {gate, end, won};
                }
            }
        }
        return best[2] == 0 ? NONE : best[what];
    }
}
