/** Districts under one backbone street, each of which tells the others only its totals. */
public final class DistrictTotals {
    public static final int UNKNOWN = -1;
    public static final int BAD_VALUE = -2;
    public static final int FULL = -3;
    public static final int NONE = -5;

    private static final int CROSSINGS = 14;
    private static final int DISTRICTS = 4;
    private static final int BACKBONE = 0;
    private static final int LANES = 24;
    private static final int ALLEYS = 12;
    private static final int STATES = 4;
    private static final int SIGNS = 60;
    private static final int STEPS = 30;
    private static final int LONGEST = 20;
    private static final int HIGHEST_RANK = 9;
    private static final int FAULT_BASE = -100;

    // The columns of a lane and of an alley stand as laneOf and alleyOf number them.
    private static final int ONE = 0;
    private static final int OTHER = 1;
    private static final int LENGTH = 2;
    private static final int DISTRICT = 3;
    private static final int CLOSED = 4;
    private static final int CLERK = 5;
    private static final int TOLD = 6;
    private static final int LANE_COLUMNS = 5;
    private static final int ALLEY_AT = 0;
    private static final int ALLEY_LENGTH = 1;
    private static final int ALLEY_DISTRICT = 2;
    private static final int ALLEY_COLUMNS = 3;

    // The ways have one layer for each district and, behind these, one for the lanes of all districts.
    private static final int ANYWHERE = 4;
    private static final int LAYERS = 5;

    // More than any sum of ways, and so small that a few of it can be added up.
    private static final int FAR = 1000000;

    // The first three stand as ifClosed numbers them.
    private static final int LOST = 0;
    private static final int GREATER = 1;
    private static final int LESSER = 2;
    private static final int WON = 3;

    private final Plan now;
    private final Plan draft;
    private final Plan snapshot;
    private boolean kept;
    private final History history;
    private final Text text;
    private final Totals told;
    private final Totals trial;
    private boolean toldIsStale;

    /** Creates crossings without lanes and alleys. */
    public DistrictTotals() {
        now = new Plan();
        draft = new Plan();
        snapshot = new Plan();
        kept = false;
        history = new History();
        text = new Text();
        told = new Totals();
        trial = new Totals();
        toldIsStale = true;
    }

    // ---- lanes, alleys

    /** A lane comes. Returns its number; UNKNOWN; BAD_VALUE; FULL. */
    public int lane(int one, int other, int length, int district) {
        if (!isCrossing(one) || !isCrossing(other) || !isDistrict(district)) {
            return UNKNOWN;
        }
        int refusal = now.refusalOfLane(one, other, length);
        if (refusal != 0) {
            return refusal;
        }
        beginAct();
        return now.addLane(one, other, length, district);
    }

    /** Takes a lane away. Returns how many are left; UNKNOWN. */
    public int takeLane(int lane) {
        if (!now.hasLane(lane)) {
            return UNKNOWN;
        }
        beginAct();
        return now.removeLane(lane);
    }

    /** Closes a lane, or opens it. Returns how many lanes are told then; UNKNOWN; NONE. */
    public int close(int lane, boolean closed) {
        if (!now.hasLane(lane)) {
            return UNKNOWN;
        }
        if (now.isClosed(lane) == closed) {
            return NONE;
        }
        beginAct();
        now.setClosed(lane, closed);
        return now.toldLanes();
    }

    /** Gives a crossing a rank. Returns the previous one; UNKNOWN; BAD_VALUE; NONE. */
    public int rank(int crossing, int rank) {
        if (!isCrossing(crossing)) {
            return UNKNOWN;
        }
        if (rank < 0 || rank > HIGHEST_RANK) {
            return BAD_VALUE;
        }
        int previous = now.rankOf(crossing);
        if (previous == rank) {
            return NONE;
        }
        beginAct();
        now.setRank(crossing, rank);
        return previous;
    }

    /** An alley comes. Returns its number; UNKNOWN; BAD_VALUE; FULL. */
    public int alley(int crossing, int length, int district) {
        if (!isCrossing(crossing) || !isDistrict(district)) {
            return UNKNOWN;
        }
        int refusal = now.refusalOfAlley(length);
        if (refusal != 0) {
            return refusal;
        }
        beginAct();
        return now.addAlley(crossing, length, district);
    }

    /** Takes an alley away. Returns how many are left; UNKNOWN. */
    public int takeAlley(int alley) {
        if (!now.hasAlley(alley)) {
            return UNKNOWN;
        }
        beginAct();
        return now.removeAlley(alley);
    }

    /** Does what the text tells. Returns how many parts it has; -100 minus its fault; BAD_VALUE; FULL. */
    public int tellAll() {
        int place = text.findFault();
        if (place != NONE) {
            return FAULT_BASE - place;
        }
        draft.copyFrom(now);
        text.start();
        int parts = 0;
        while (text.hasMore() && parts < SIGNS) {
            text.readPart();
            int refusal = tellPart();
            if (refusal != 0) {
                return refusal;
            }
            parts++;
        }
        beginAct();
        now.copyFrom(draft);
        return parts;
    }

    // ---- texts

    /** Appends a character to the text. Returns the length then; FULL. */
    public int type(char character) {
        return text.append(character) ? text.size() : FULL;
    }

    /** Empties the text. Returns the length that it had. */
    public int clearText() {
        int size = text.size();
        text.empty();
        return size;
    }

    /** Tells the fault of the text. Returns the index; NONE. */
    public int fault() {
        return text.findFault();
    }

    // ---- history

    /** Removes and restores the latest state of the history. Returns how many are left; NONE. */
    public int undo() {
        if (!history.moveLatestTo(now)) {
            return NONE;
        }
        toldIsStale = true;
        return history.size();
    }

    /** Takes a snapshot of the state. Returns how many lanes there are. */
    public int keep() {
        snapshot.copyFrom(now);
        kept = true;
        return now.laneCount();
    }

    /** Restores the state of the snapshot. Returns how many lanes there are then; NONE. */
    public int restore() {
        if (!kept) {
            return NONE;
        }
        beginAct();
        now.copyFrom(snapshot);
        return now.laneCount();
    }

    // ---- what is told

    /** Tells about a lane. Returns the number; UNKNOWN; BAD_VALUE. */
    public int laneOf(int lane, int what) {
        if (!now.hasLane(lane)) {
            return UNKNOWN;
        }
        if (what < 0 || what > TOLD) {
            return BAD_VALUE;
        }
        if (what == CLERK) {
            return now.clerkOf(lane);
        }
        if (what == TOLD) {
            return now.isTold(lane) ? 1 : 0;
        }
        return now.laneCell(lane, what);
    }

    /** Tells about an alley. Returns the number; UNKNOWN; BAD_VALUE. */
    public int alleyOf(int alley, int what) {
        if (!now.hasAlley(alley)) {
            return UNKNOWN;
        }
        if (what < 0 || what > ALLEY_COLUMNS) {
            return BAD_VALUE;
        }
        if (what == ALLEY_COLUMNS) {
            workOut();
            return told.crossingsWithTotal(alley);
        }
        return now.alleyCell(alley, what);
    }

    /** Tells about a crossing. Returns the number; UNKNOWN; BAD_VALUE. */
    public int crossingOf(int crossing, int what) {
        if (!isCrossing(crossing)) {
            return UNKNOWN;
        }
        workOut();
        switch (what) {
            case 0:
                return now.rankOf(crossing);
            case 1:
                return told.districtsOf(crossing);
            case 2:
                return told.gateDistrictsOf(crossing);
            case 3:
                return now.lanesOfClerk(crossing);
            case 4:
                return told.alleysWithTotal(crossing);
            case 5:
                return told.sumOfTotals(crossing);
            default:
                return BAD_VALUE;
        }
    }

    /** Tells the way within a district. Returns its length; UNKNOWN; NONE. */
    public int within(int district, int one, int other) {
        if (!isDistrict(district) || !isCrossing(one) || !isCrossing(other)) {
            return UNKNOWN;
        }
        workOut();
        return noneIfFar(told.way(district, one, other));
    }

    /** Tells the total of an alley for a crossing. Returns the number; UNKNOWN; BAD_VALUE; NONE. */
    public int total(int crossing, int alley, int what) {
        if (!isCrossing(crossing) || !now.hasAlley(alley)) {
            return UNKNOWN;
        }
        if (what < 0 || what > 3) {
            return BAD_VALUE;
        }
        workOut();
        if (!told.hasTotal(crossing, alley)) {
            return NONE;
        }
        switch (what) {
            case 0:
                return told.sumFor(crossing, alley);
            case 1:
                return told.ruleFor(crossing, alley);
            case 2:
                return now.otherEnd(firstStep(crossing, alley), crossing);
            default:
                return stepEnds(crossing, alley);
        }
    }

    /** Walks from a crossing to an alley. Returns the number; UNKNOWN; BAD_VALUE; NONE. */
    public int walk(int crossing, int alley, int what) {
        if (!isCrossing(crossing) || !now.hasAlley(alley)) {
            return UNKNOWN;
        }
        if (what < 0 || what > 2) {
            return BAD_VALUE;
        }
        workOut();
        int here = crossing;
        int length = now.alleyCell(alley, ALLEY_LENGTH);
        int passed = 0;
        for (int steps = 0; steps <= STEPS; steps++) {
            passed |= 1 << here;
            if (hasArrived(here, alley)) {
                return what == 0 ? steps : what == 1 ? length : passed;
            }
            int lane = firstStep(here, alley);
            if (lane == NONE) {
                return NONE;
            }
            length += now.laneCell(lane, LENGTH);
            here = now.otherEnd(lane, here);
        }
        return NONE;
    }

    /** Tells the shortest way to an alley by all lanes that are told. Returns the sum; UNKNOWN; NONE. */
    public int shortest(int crossing, int alley) {
        if (!isCrossing(crossing) || !now.hasAlley(alley)) {
            return UNKNOWN;
        }
        workOut();
        return noneIfFar(shortestSum(crossing, alley));
    }

    /** Tells how much longer the total is than the shortest way; -1.0f if there is none. */
    public float stretch(int crossing, int alley) {
        if (!isCrossing(crossing) || !now.hasAlley(alley)) {
            return -1.0f;
        }
        workOut();
        if (!told.hasTotal(crossing, alley)) {
            return -1.0f;
        }
        int least = shortestSum(crossing, alley);
        // A total with a shortest sum of 0 is 0 too: that sum is told only at the alley's own crossing.
        if (least <= 0) {
            return 1.0f;
        }
        return (float) told.sumFor(crossing, alley) / (float) least;
    }

    /** Counts things. Returns the number; BAD_VALUE. */
    public int count(int what) {
        switch (what) {
            case 0:
                return now.laneCount();
            case 1:
                return now.toldLanes();
            case 2:
                return now.alleyCount();
            case 3:
                workOut();
                return told.gateCount();
            case 4:
            case 5:
            case 6:
            case 7:
                workOut();
                return countPairs(what);
            case 8:
                return history.size();
            case 9:
                return text.size();
            default:
                return BAD_VALUE;
        }
    }

    // ---- what would be

    /** Tells what a told lane would change if it was closed. Returns the number; UNKNOWN; BAD_VALUE. */
    public int ifClosed(int lane, int what) {
        if (!now.hasLane(lane)) {
            return UNKNOWN;
        }
        if (what < LOST || what > LESSER) {
            return BAD_VALUE;
        }
        if (!now.isTold(lane)) {
            return 0;
        }
        workOut();
        trial.workOutWithout(now, told, lane);
        return countChanges(what);
    }

    /** Finds the lane that matters the most. Returns the lane; NONE. */
    public int weakest() {
        workOut();
        int best = NONE;
        int mostLost = 0;
        int mostGreater = 0;
        for (int lane = 0; lane < LANES; lane++) {
            if (!now.hasLane(lane) || !now.isTold(lane)) {
                continue;
            }
            trial.workOutWithout(now, told, lane);
            int lost = countChanges(LOST);
            int greater = countChanges(GREATER);
            if (lost > mostLost || (lost == mostLost && greater > mostGreater)) {
                best = lane;
                mostLost = lost;
                mostGreater = greater;
            }
        }
        return best;
    }

    /** Finds the crossing that could best be a gate of a district. Returns the number; UNKNOWN; BAD_VALUE; NONE. */
    public int bestGate(int district, int what) {
        if (!isDistrict(district) || district == BACKBONE) {
            return UNKNOWN;
        }
        if (what < 0 || what > 2) {
            return BAD_VALUE;
        }
        workOut();
        int most = 0;
        int bestFrom = NONE;
        int bestTo = NONE;
        for (int from = 0; from < CROSSINGS; from++) {
            for (int to = 0; to < CROSSINGS; to++) {
                if (!couldJoin(from, to, district)) {
                    continue;
                }
                trial.workOutWithLane(now, told, from, to, district);
                int won = countChanges(WON);
                if (won > most) {
                    most = won;
                    bestFrom = from;
                    bestTo = to;
                }
            }
        }
        if (most == 0) {
            return NONE;
        }
        return what == 0 ? bestFrom : what == 1 ? bestTo : most;
    }

    private static boolean isCrossing(int crossing) {
        return crossing >= 0 && crossing < CROSSINGS;
    }

    private static boolean isDistrict(int district) {
        return district >= 0 && district < DISTRICTS;
    }

    private static int noneIfFar(int length) {
        return length < FAR ? length : NONE;
    }

    /** Stands before each change of the state by an act, when no error can come any more. */
    private void beginAct() {
        history.record(now);
        toldIsStale = true;
    }

    /** Works the totals out anew if the state has changed since the last time. */
    private void workOut() {
        if (toldIsStale) {
            told.workOutAll(now);
            toldIsStale = false;
        }
    }

    /** Adds to the draft the part of the text that was read last; 0, or the error. */
    private int tellPart() {
        if (!text.isLane()) {
            int refusal = draft.refusalOfAlley(text.length());
            if (refusal == 0) {
                draft.addAlley(text.one(), text.length(), text.district());
            }
            return refusal;
        }
        int refusal = draft.refusalOfLane(text.one(), text.other(), text.length());
        if (refusal == 0) {
            draft.addLane(text.one(), text.other(), text.length(), text.district());
        }
        return refusal;
    }

    private boolean hasArrived(int crossing, int alley) {
        return told.ruleFor(crossing, alley) == 1 && crossing == now.alleyCell(alley, ALLEY_AT);
    }

    /** The shortest lane that is a step to the lowest crossing, or NONE. */
    private int firstStep(int crossing, int alley) {
        int best = NONE;
        for (int lane = 0; lane < LANES; lane++) {
            if (told.isStep(now, lane, crossing, alley)
                    && (best == NONE || isEarlierStep(lane, best, crossing))) {
                best = lane;
            }
        }
        return best;
    }

    private boolean isEarlierStep(int lane, int best, int crossing) {
        int end = now.otherEnd(lane, crossing);
        int bestEnd = now.otherEnd(best, crossing);
        if (end != bestEnd) {
            return end < bestEnd;
        }
        return now.laneCell(lane, LENGTH) < now.laneCell(best, LENGTH);
    }

    private int stepEnds(int crossing, int alley) {
        int ends = 0;
        for (int lane = 0; lane < LANES; lane++) {
            if (told.isStep(now, lane, crossing, alley)) {
                ends |= 1 << now.otherEnd(lane, crossing);
            }
        }
        return ends;
    }

    private int shortestSum(int crossing, int alley) {
        return told.way(ANYWHERE, crossing, now.alleyCell(alley, ALLEY_AT)) + now.alleyCell(alley, ALLEY_LENGTH);
    }

    private int countPairs(int what) {
        int pairs = 0;
        for (int crossing = 0; crossing < CROSSINGS; crossing++) {
            if (told.districtsOf(crossing) == 0) {
                continue;
            }
            for (int alley = 0; alley < now.alleyCount(); alley++) {
                if (countsAs(what, crossing, alley)) {
                    pairs++;
                }
            }
        }
        return pairs;
    }

    private boolean countsAs(int what, int crossing, int alley) {
        boolean hasTotal = told.hasTotal(crossing, alley);
        int least = shortestSum(crossing, alley);
        switch (what) {
            case 4:
                return hasTotal;
            case 5:
                return !hasTotal;
            case 6:
                return !hasTotal && least < FAR;
            default:
                return hasTotal && told.sumFor(crossing, alley) > least;
        }
    }

    /** Counts the pairs that change so from what is told to what is tried. */
    private int countChanges(int change) {
        int pairs = 0;
        for (int crossing = 0; crossing < CROSSINGS; crossing++) {
            for (int alley = 0; alley < now.alleyCount(); alley++) {
                if (isChange(change, told.sumFor(crossing, alley), trial.sumFor(crossing, alley))) {
                    pairs++;
                }
            }
        }
        return pairs;
    }

    private static boolean isChange(int change, int before, int after) {
        switch (change) {
            case LOST:
                return before < FAR && after >= FAR;
            case GREATER:
                return before < after && after < FAR;
            case LESSER:
                return after < before && before < FAR;
            default:
                return before >= FAR && after < FAR;
        }
    }

    /** Whether a new lane of the district between the two would be told, and would make the first one a gate. */
    private boolean couldJoin(int from, int to, int district) {
        return told.isIn(BACKBONE, from) && !told.isIn(district, from) && told.isIn(district, to)
                && now.clerkBetween(from, to) != NONE;
    }

    /** Rows of numbers; those behind one that is removed move up. Outside of its room all is 0 and stays so. */
    private static final class Table {
        private final int[] cells;
        private final int columns;
        private int rows;

        Table(int room, int columns) {
            this.cells = new int[Math.max(0, room * columns)];
            this.columns = columns;
            this.rows = 0;
        }

        int size() {
            return rows;
        }

        boolean has(int row) {
            return row >= 0 && row < rows;
        }

        boolean isFull() {
            return (rows + 1) * columns > cells.length;
        }

        int at(int row, int column) {
            int place = row * columns + column;
            return place >= 0 && place < cells.length ? cells[place] : 0;
        }

        void put(int row, int column, int value) {
            int place = row * columns + column;
            if (place >= 0 && place < cells.length) {
                cells[place] = value;
            }
        }

        /** Returns the number of a new row, or NONE if there is no room. */
        int add() {
            if (isFull()) {
                return NONE;
            }
            rows++;
            return rows - 1;
        }

        void remove(int row) {
            if (!has(row)) {
                return;
            }
            for (int behind = row + 1; behind < rows; behind++) {
                for (int column = 0; column < columns; column++) {
                    put(behind - 1, column, at(behind, column));
                }
            }
            rows--;
        }

        void copyFrom(Table from) {
            System.arraycopy(from.cells, 0, cells, 0, Math.min(from.cells.length, cells.length));
            rows = from.rows;
        }
    }

    /** What a state is: the ranks, the lanes and the alleys. */
    private static final class Plan {
        private final Table ranks;
        private final Table lanes;
        private final Table alleys;

        Plan() {
            ranks = new Table(CROSSINGS, 1);
            lanes = new Table(LANES, LANE_COLUMNS);
            alleys = new Table(ALLEYS, ALLEY_COLUMNS);
            for (int crossing = 0; crossing < CROSSINGS; crossing++) {
                ranks.put(crossing, 0, 1);
            }
        }

        void copyFrom(Plan from) {
            ranks.copyFrom(from.ranks);
            lanes.copyFrom(from.lanes);
            alleys.copyFrom(from.alleys);
        }

        int rankOf(int crossing) {
            return ranks.at(crossing, 0);
        }

        void setRank(int crossing, int rank) {
            ranks.put(crossing, 0, rank);
        }

        boolean hasLane(int lane) {
            return lanes.has(lane);
        }

        int laneCount() {
            return lanes.size();
        }

        int laneCell(int lane, int column) {
            return lanes.at(lane, column);
        }

        /** Why a lane between two crossings can't come: BAD_VALUE or FULL; 0 if it can. */
        int refusalOfLane(int one, int other, int length) {
            if (length < 1 || length > LONGEST || one == other) {
                return BAD_VALUE;
            }
            return lanes.isFull() ? FULL : 0;
        }

        int addLane(int one, int other, int length, int district) {
            int lane = lanes.add();
            lanes.put(lane, ONE, one);
            lanes.put(lane, OTHER, other);
            lanes.put(lane, LENGTH, length);
            lanes.put(lane, DISTRICT, district);
            lanes.put(lane, CLOSED, 0);
            return lane;
        }

        int removeLane(int lane) {
            lanes.remove(lane);
            return lanes.size();
        }

        boolean isClosed(int lane) {
            return lanes.at(lane, CLOSED) != 0;
        }

        void setClosed(int lane, boolean closed) {
            lanes.put(lane, CLOSED, closed ? 1 : 0);
        }

        int clerkBetween(int one, int other) {
            int rankOfOne = ranks.at(one, 0);
            int rankOfOther = ranks.at(other, 0);
            if (rankOfOne == 0 && rankOfOther == 0) {
                return NONE;
            }
            if (rankOfOne == rankOfOther) {
                return Math.max(one, other);
            }
            return rankOfOne > rankOfOther ? one : other;
        }

        int clerkOf(int lane) {
            return clerkBetween(lanes.at(lane, ONE), lanes.at(lane, OTHER));
        }

        boolean isTold(int lane) {
            return !isClosed(lane) && clerkOf(lane) != NONE;
        }

        int toldLanes() {
            int lanesTold = 0;
            for (int lane = 0; lane < lanes.size(); lane++) {
                if (isTold(lane)) {
                    lanesTold++;
                }
            }
            return lanesTold;
        }

        int lanesOfClerk(int crossing) {
            int lanesFound = 0;
            for (int lane = 0; lane < lanes.size(); lane++) {
                if (clerkOf(lane) == crossing) {
                    lanesFound++;
                }
            }
            return lanesFound;
        }

        /** The end to which the lane leads from this crossing; NONE if there is no such lane here. */
        int otherEnd(int lane, int crossing) {
            if (!lanes.has(lane)) {
                return NONE;
            }
            int one = lanes.at(lane, ONE);
            int other = lanes.at(lane, OTHER);
            if (one == crossing) {
                return other;
            }
            return other == crossing ? one : NONE;
        }

        boolean hasAlley(int alley) {
            return alleys.has(alley);
        }

        int alleyCount() {
            return alleys.size();
        }

        int alleyCell(int alley, int column) {
            return alleys.at(alley, column);
        }

        /** Why an alley can't come: BAD_VALUE or FULL; 0 if it can. */
        int refusalOfAlley(int length) {
            if (length < 0 || length > LONGEST) {
                return BAD_VALUE;
            }
            return alleys.isFull() ? FULL : 0;
        }

        int addAlley(int crossing, int length, int district) {
            int alley = alleys.add();
            alleys.put(alley, ALLEY_AT, crossing);
            alleys.put(alley, ALLEY_LENGTH, length);
            alleys.put(alley, ALLEY_DISTRICT, district);
            return alley;
        }

        int removeAlley(int alley) {
            alleys.remove(alley);
            return alleys.size();
        }
    }

    /** The latest states; their rows are made once and used again. */
    private static final class History {
        private final Plan[] plans;
        private int size;

        History() {
            plans = new Plan[STATES];
            for (int state = 0; state < plans.length; state++) {
                plans[state] = new Plan();
            }
            size = 0;
        }

        int size() {
            return size;
        }

        void record(Plan plan) {
            if (size >= plans.length) {
                dropOldest();
            }
            if (size < 0 || size >= plans.length) {
                return;
            }
            Plan free = plans[size];
            if (free != null) {
                free.copyFrom(plan);
                size++;
            }
        }

        private void dropOldest() {
            int last = plans.length - 1;
            if (last < 0) {
                return;
            }
            Plan oldest = plans[0];
            for (int state = 0; state < last; state++) {
                plans[state] = plans[state + 1];
            }
            plans[last] = oldest;
            size = last;
        }

        /** Removes the latest state and copies it to the plan; false if there is none. */
        boolean moveLatestTo(Plan plan) {
            if (size < 1 || size > plans.length) {
                return false;
            }
            Plan latest = plans[size - 1];
            if (latest == null) {
                return false;
            }
            plan.copyFrom(latest);
            size--;
            return true;
        }
    }

    /** The characters that were typed, read part by part up to the first one that is not allowed. */
    private static final class Text {
        private final char[] signs;
        private int size;
        private int place;
        private boolean stuck;
        private boolean readsLane;
        private int one;
        private int other;
        private int length;
        private int district;

        Text() {
            signs = new char[SIGNS];
            size = 0;
            place = 0;
            stuck = false;
            readsLane = false;
            one = 0;
            other = 0;
            length = 0;
            district = 0;
        }

        int size() {
            return size;
        }

        boolean append(char sign) {
            if (size < 0 || size >= signs.length) {
                return false;
            }
            signs[size] = sign;
            size++;
            return true;
        }

        void empty() {
            size = 0;
        }

        /** Whether the part that was read last is a lane. */
        boolean isLane() {
            return readsLane;
        }

        /** The first crossing of the part that was read last. */
        int one() {
            return one;
        }

        int other() {
            return other;
        }

        int length() {
            return length;
        }

        int district() {
            return district;
        }

        void start() {
            place = 0;
            stuck = false;
        }

        boolean hasMore() {
            return place < size;
        }

        /** The index of the first character that is not allowed, or of the end if it comes too early; or NONE. */
        int findFault() {
            start();
            // Each part takes at least one character, so there are no more parts than characters.
            for (int parts = 0; parts < SIGNS && !stuck; parts++) {
                readPart();
                if (!stuck && !hasMore()) {
                    return NONE;
                }
            }
            return place;
        }

        /** Reads a part and, if the text goes on behind it, the sign before the next one. */
        void readPart() {
            if (signAt(place) == 'a') {
                readAlleyPart();
            } else {
                readLanePart();
            }
            if (!stuck && hasMore()) {
                readSign(';');
                stuck = stuck || !hasMore();
            }
        }

        private void readAlleyPart() {
            readsLane = false;
            readSign('a');
            one = readNumber(0, CROSSINGS - 1);
            readSign('+');
            length = readNumber(0, LONGEST);
            readSign(':');
            district = readNumber(0, DISTRICTS - 1);
        }

        private void readLanePart() {
            readsLane = true;
            one = readNumber(0, CROSSINGS - 1);
            readSign('-');
            other = readNumber(0, CROSSINGS - 1);
            readSign('*');
            length = readNumber(1, LONGEST);
            readSign(':');
            district = readNumber(0, DISTRICTS - 1);
        }

        private void readSign(char sign) {
            if (!stuck && signAt(place) == sign) {
                place++;
            } else {
                stuck = true;
            }
        }

        /** Reads as many digits as the most allows; the least is 0 or 1. */
        private int readNumber(int least, int most) {
            int number = digitAt(place);
            if (stuck || number < least || number > most) {
                stuck = true;
                return 0;
            }
            place++;
            // No number has more than two digits, and none has a zero in front.
            int digit = digitAt(place);
            if (number > 0 && digit != NONE && number * 10 + digit <= most) {
                number = number * 10 + digit;
                place++;
            }
            return number;
        }

        /** The character at this place, or NONE behind the end. */
        private int signAt(int index) {
            if (index < 0 || index >= size || index >= signs.length) {
                return NONE;
            }
            return signs[index];
        }

        private int digitAt(int index) {
            int sign = signAt(index);
            return sign >= '0' && sign <= '9' ? sign - '0' : NONE;
        }
    }

    /** The lengths of the shortest ways between crossings, layer by layer; FAR where there is none. */
    private static final class Ways {
        private final int[] lengths;

        Ways() {
            lengths = new int[LAYERS * CROSSINGS * CROSSINGS];
        }

        /** Takes all lanes out of a layer. By all lanes a crossing reaches itself even if no lane ends there. */
        void clear(int layer) {
            for (int one = 0; one < CROSSINGS; one++) {
                for (int other = 0; other < CROSSINGS; other++) {
                    put(layer, one, other, layer == ANYWHERE && one == other ? 0 : FAR);
                }
            }
        }

        void copyFrom(Ways from) {
            System.arraycopy(from.lengths, 0, lengths, 0, Math.min(from.lengths.length, lengths.length));
        }

        int between(int layer, int one, int other) {
            int place = (layer * CROSSINGS + one) * CROSSINGS + other;
            return place >= 0 && place < lengths.length ? lengths[place] : FAR;
        }

        private void put(int layer, int one, int other, int length) {
            int place = (layer * CROSSINGS + one) * CROSSINGS + other;
            if (place >= 0 && place < lengths.length) {
                lengths[place] = length;
            }
        }

        /** A lane comes into the layer: its ends are in it from now on, and ways over it may be shorter. */
        void join(int layer, int one, int other, int length) {
            put(layer, one, one, 0);
            put(layer, other, other, 0);
            for (int from = 0; from < CROSSINGS; from++) {
                int overOne = between(layer, from, one) + length;
                int overOther = between(layer, from, other) + length;
                // Where the lane does not shorten the way to its own far end, it shortens none behind it.
                if (overOne < between(layer, from, other)) {
                    shortenFrom(layer, from, overOne, other);
                } else if (overOther < between(layer, from, one)) {
                    shortenFrom(layer, from, overOther, one);
                }
            }
        }

        /** Shortens the ways from a crossing that can go by a way of this length to another crossing. */
        private void shortenFrom(int layer, int from, int length, int over) {
            for (int to = 0; to < CROSSINGS; to++) {
                int whole = length + between(layer, over, to);
                if (whole < between(layer, from, to)) {
                    put(layer, from, to, whole);
                }
            }
        }
    }

    /** What the districts tell of a plan: its ways and, for each crossing and alley, the total and its rule. */
    private static final class Totals {
        private final Ways ways;
        private final Table districts;
        private final Table gates;
        private final Table sums;
        private final Table rules;
        private int alleys;

        Totals() {
            ways = new Ways();
            districts = new Table(CROSSINGS, 1);
            gates = new Table(DISTRICTS, 1);
            sums = new Table(CROSSINGS, ALLEYS);
            rules = new Table(CROSSINGS, ALLEYS);
            alleys = 0;
        }

        /** Works out the ways and the totals from all lanes that are told. */
        void workOutAll(Plan plan) {
            for (int layer = 0; layer < LAYERS; layer++) {
                ways.clear(layer);
            }
            for (int lane = 0; lane < plan.laneCount(); lane++) {
                if (plan.isTold(lane)) {
                    joinLane(plan, lane, plan.laneCell(lane, DISTRICT));
                    joinLane(plan, lane, ANYWHERE);
                }
            }
            sumUp(plan);
        }

        /** Works out the totals without a lane; the ways anywhere, that nobody asks for then, stay as they are. */
        void workOutWithout(Plan plan, Totals before, int leftOut) {
            int district = plan.laneCell(leftOut, DISTRICT);
            ways.copyFrom(before.ways);
            ways.clear(district);
            for (int lane = 0; lane < plan.laneCount(); lane++) {
                if (lane != leftOut && plan.laneCell(lane, DISTRICT) == district && plan.isTold(lane)) {
                    joinLane(plan, lane, district);
                }
            }
            sumUp(plan);
        }

        /** Works out the totals with one more lane of the length 1; the ways anywhere stay as they are. */
        void workOutWithLane(Plan plan, Totals before, int one, int other, int district) {
            ways.copyFrom(before.ways);
            ways.join(district, one, other, 1);
            sumUp(plan);
        }

        private void joinLane(Plan plan, int lane, int layer) {
            ways.join(layer, plan.laneCell(lane, ONE), plan.laneCell(lane, OTHER), plan.laneCell(lane, LENGTH));
        }

        private void sumUp(Plan plan) {
            alleys = plan.alleyCount();
            findDistricts();
            for (int alley = 0; alley < alleys; alley++) {
                for (int crossing = 0; crossing < CROSSINGS; crossing++) {
                    sums.put(crossing, alley, FAR);
                    rules.put(crossing, alley, 0);
                }
                sumUpAlley(plan, alley);
            }
        }

        private void findDistricts() {
            for (int district = 0; district < DISTRICTS; district++) {
                gates.put(district, 0, 0);
            }
            for (int crossing = 0; crossing < CROSSINGS; crossing++) {
                int set = 0;
                for (int district = 0; district < DISTRICTS; district++) {
                    if (ways.between(district, crossing, crossing) == 0) {
                        set |= 1 << district;
                    }
                }
                districts.put(crossing, 0, set);
                if (isIn(BACKBONE, crossing)) {
                    addGate(crossing, set);
                }
            }
        }

        private void addGate(int crossing, int set) {
            for (int district = BACKBONE + 1; district < DISTRICTS; district++) {
                if ((set >> district & 1) != 0) {
                    gates.put(district, 0, gates.at(district, 0) | 1 << crossing);
                }
            }
        }

        private void sumUpAlley(Plan plan, int alley) {
            int end = plan.alleyCell(alley, ALLEY_AT);
            int district = plan.alleyCell(alley, ALLEY_DISTRICT);
            int length = plan.alleyCell(alley, ALLEY_LENGTH);
            // Each total ends with a way within the alley's district.
            if (!isIn(district, end)) {
                return;
            }
            for (int crossing = 0; crossing < CROSSINGS; crossing++) {
                int own = ways.between(district, crossing, end);
                if (own < FAR) {
                    setTotal(crossing, alley, own + length, 1);
                } else if (isIn(BACKBONE, crossing)) {
                    setTotal(crossing, alley, leastOverBackbone(crossing, district, end) + length, 2);
                }
            }
            // Only now do all gates have their totals by 1 or 2, on which those by 3 rest.
            for (int crossing = 0; crossing < CROSSINGS; crossing++) {
                if (!isIn(BACKBONE, crossing) && !hasTotal(crossing, alley)) {
                    setTotal(crossing, alley, leastByGates(crossing, alley), 3);
                }
            }
        }

        private void setTotal(int crossing, int alley, int sum, int rule) {
            if (sum < FAR) {
                sums.put(crossing, alley, sum);
                rules.put(crossing, alley, rule);
            }
        }

        /** The least way from a crossing over a gate of the district to an end in it. */
        private int leastOverBackbone(int crossing, int district, int end) {
            int least = FAR;
            int set = gates.at(district, 0);
            for (int gate = 0; gate < CROSSINGS; gate++) {
                if ((set >> gate & 1) != 0) {
                    int way = ways.between(BACKBONE, crossing, gate) + ways.between(district, gate, end);
                    least = Math.min(least, way);
                }
            }
            return least;
        }

        private int leastByGates(int crossing, int alley) {
            int least = FAR;
            for (int district = BACKBONE + 1; district < DISTRICTS; district++) {
                if (!isIn(district, crossing)) {
                    continue;
                }
                int set = gates.at(district, 0);
                for (int gate = 0; gate < CROSSINGS; gate++) {
                    if ((set >> gate & 1) != 0) {
                        least = Math.min(least, ways.between(district, crossing, gate) + sumFor(gate, alley));
                    }
                }
            }
            return least;
        }

        /** Whether the lane is a step from the crossing towards the alley. */
        boolean isStep(Plan plan, int lane, int crossing, int alley) {
            int next = plan.otherEnd(lane, crossing);
            if (next == NONE || !plan.isTold(lane)) {
                return false;
            }
            int district = plan.laneCell(lane, DISTRICT);
            int length = plan.laneCell(lane, LENGTH);
            switch (ruleFor(crossing, alley)) {
                case 1:
                    return district == plan.alleyCell(alley, ALLEY_DISTRICT)
                            && leadsOn(district, crossing, next, length, plan.alleyCell(alley, ALLEY_AT));
                case 2:
                    return district == BACKBONE && leadsOverBackbone(plan, crossing, next, length, alley);
                case 3:
                    return district != BACKBONE && leadsOut(district, crossing, next, length, alley);
                default:
                    return false;
            }
        }

        /** Whether the way from a crossing to an end goes, within the district, by a lane to the next crossing. */
        private boolean leadsOn(int district, int crossing, int next, int length, int end) {
            int whole = ways.between(district, crossing, end);
            return whole < FAR && length + ways.between(district, next, end) == whole;
        }

        /** Whether the lane leads on, within the backbone, to a gate with which the sum of the rule 2 is the least. */
        private boolean leadsOverBackbone(Plan plan, int crossing, int next, int length, int alley) {
            int end = plan.alleyCell(alley, ALLEY_AT);
            int district = plan.alleyCell(alley, ALLEY_DISTRICT);
            int least = sumFor(crossing, alley) - plan.alleyCell(alley, ALLEY_LENGTH);
            for (int gate = 0; gate < CROSSINGS; gate++) {
                if (!isGate(district, gate) || !leadsOn(BACKBONE, crossing, next, length, gate)) {
                    continue;
                }
                if (ways.between(BACKBONE, crossing, gate) + ways.between(district, gate, end) == least) {
                    return true;
                }
            }
            return false;
        }

        /** Whether the lane leads on, within a district, to a gate with which the sum of the rule 3 is the least. */
        private boolean leadsOut(int district, int crossing, int next, int length, int alley) {
            int least = sumFor(crossing, alley);
            for (int gate = 0; gate < CROSSINGS; gate++) {
                if (!isGate(district, gate) || !leadsOn(district, crossing, next, length, gate)) {
                    continue;
                }
                if (ways.between(district, crossing, gate) + sumFor(gate, alley) == least) {
                    return true;
                }
            }
            return false;
        }

        int way(int layer, int one, int other) {
            return ways.between(layer, one, other);
        }

        int districtsOf(int crossing) {
            return districts.at(crossing, 0);
        }

        boolean isIn(int district, int crossing) {
            return (districts.at(crossing, 0) >> district & 1) != 0;
        }

        private boolean isGate(int district, int crossing) {
            return (gates.at(district, 0) >> crossing & 1) != 0;
        }

        int gateDistrictsOf(int crossing) {
            int set = districtsOf(crossing);
            return isIn(BACKBONE, crossing) ? set - (1 << BACKBONE) : 0;
        }

        int gateCount() {
            int gates = 0;
            for (int crossing = 0; crossing < CROSSINGS; crossing++) {
                if (gateDistrictsOf(crossing) != 0) {
                    gates++;
                }
            }
            return gates;
        }

        /** The total, or FAR if there is none. */
        int sumFor(int crossing, int alley) {
            return sums.at(crossing, alley);
        }

        /** The rule by which there is a total, or 0 if there is none. */
        int ruleFor(int crossing, int alley) {
            return rules.at(crossing, alley);
        }

        boolean hasTotal(int crossing, int alley) {
            return ruleFor(crossing, alley) != 0;
        }

        int crossingsWithTotal(int alley) {
            int crossings = 0;
            for (int crossing = 0; crossing < CROSSINGS; crossing++) {
                if (hasTotal(crossing, alley)) {
                    crossings++;
                }
            }
            return crossings;
        }

        int alleysWithTotal(int crossing) {
            int alleysFound = 0;
            for (int alley = 0; alley < alleys; alley++) {
                if (hasTotal(crossing, alley)) {
                    alleysFound++;
                }
            }
            return alleysFound;
        }

        int sumOfTotals(int crossing) {
            int sum = 0;
            for (int alley = 0; alley < alleys; alley++) {
                if (hasTotal(crossing, alley)) {
                    sum += sumFor(crossing, alley);
                }
            }
            return sum;
        }
    }
}
