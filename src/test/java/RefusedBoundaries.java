/** No refused call and no question changes anything: the object answers as one beside it without that call. */
final class RefusedBoundaries {
    private static final String CHANGES_NOTHING = "A call that returns an error or NONE changes nothing.";

    /** A snapshot that is not the state, a closed lane, unlike ranks, a text with a fault, a full history. */
    private static final String PREPARED = QuestionBoundaries.TOWN + """
            keep()
            rank(13, 9)
            rank(5, 0)
            close(2, true)
            lane(12, 13, 20, 3)
            write 0-1*1:0;
            """;

    private static final String FULL_UP = """
            23 x lane(0, 1, 1, 0)
            lane(12, 13, 20, 3)
            12 x alley(13, 20, 3)
            """;

    private RefusedBoundaries() {
    }

    static void all(Sentences s) {
        refusedLanes(s);
        refusedAlleys(s);
        refusedTexts(s);
        refusedHistory(s);
        refusedQuestions(s);
        questions(s);
    }

    private static void refused(Sentences s, int promise, String before, String... calls) {
        for (String call : calls) {
            s.term(promise, CHANGES_NOTHING, before + call + "\n");
            String with = portrait(s.town());
            s.setUp(before);
            String without = portrait(s.town());
            s.check(with.equals(without), call + " leaves\n" + with + "instead of\n" + without);
            s.setUp(before + call + "\n");
            with = past(s.town());
            s.setUp(before);
            without = past(s.town());
            s.check(with.equals(without), call + " leaves the history\n" + with + "instead of\n" + without);
        }
    }

    /** What lies in the history, found by acts alone: a question that was an act would hide what it did before. */
    private static String past(DistrictTotals x) {
        StringBuilder past = new StringBuilder();
        for (int undone = 0; undone < 5; undone++) {
            past.append(x.undo()).append(' ').append(x.keep());
            int alleys = x.takeAlley(0);
            past.append(' ').append(alleys).append(alleys < 0 ? DistrictTotals.NONE : x.undo()).append('\n');
        }
        return past.toString();
    }

    /** All that an object answers of itself, and its snapshot at last. */
    private static String portrait(DistrictTotals x) {
        StringBuilder portrait = new StringBuilder();
        for (int what = 0; what < 10; what++) {
            portrait.append(x.count(what)).append(what < 9 ? ' ' : '\n');
        }
        portrait.append("fault ").append(x.fault()).append('\n');
        addState(portrait, x);
        portrait.append("snapshot ").append(x.restore()).append(' ').append(x.count(2)).append(' ')
                .append(x.crossingOf(5, 0)).append('\n');
        return portrait.toString();
    }

    private static void addState(StringBuilder portrait, DistrictTotals x) {
        for (int crossing = 0; crossing < 14; crossing++) {
            for (int what = 0; what < 6; what++) {
                portrait.append(x.crossingOf(crossing, what)).append(what < 5 ? ' ' : '\n');
            }
        }
        int lanes = x.count(0);
        for (int lane = 0; lane < lanes; lane++) {
            for (int what = 0; what < 5; what++) {
                portrait.append(x.laneOf(lane, what)).append(what < 4 ? ' ' : '\n');
            }
        }
        int alleys = x.count(2);
        for (int alley = 0; alley < alleys; alley++) {
            for (int what = 0; what < 4; what++) {
                portrait.append(x.alleyOf(alley, what)).append(what < 3 ? ' ' : '\n');
            }
        }
    }

    private static void refusedLanes(Sentences s) {
        refused(s, 2, PREPARED, "lane(14, 0, 1, 0) -> UNKNOWN", "lane(0, -1, 1, 0) -> UNKNOWN",
                "lane(0, 1, 1, 4) -> UNKNOWN", "lane(0, 1, 0, 0) -> BAD_VALUE", "lane(0, 1, 21, 0) -> BAD_VALUE",
                "lane(3, 3, 1, 0) -> BAD_VALUE");
        refused(s, 2, FULL_UP, "lane(4, 5, 6, 2) -> FULL");
        refused(s, 3, PREPARED, "takeLane(7) -> UNKNOWN", "takeLane(-1) -> UNKNOWN");
        refused(s, 3, FULL_UP, "takeLane(24) -> UNKNOWN");
        refused(s, 4, PREPARED, "close(7, true) -> UNKNOWN", "close(-1, true) -> UNKNOWN", "close(0, false) -> NONE",
                "close(2, true) -> NONE");
        refused(s, 5, PREPARED, "rank(14, 0) -> UNKNOWN", "rank(-1, 0) -> UNKNOWN", "rank(0, 10) -> BAD_VALUE",
                "rank(0, -1) -> BAD_VALUE", "rank(0, 1) -> NONE", "rank(13, 9) -> NONE", "rank(5, 0) -> NONE");
    }

    private static void refusedAlleys(Sentences s) {
        refused(s, 6, PREPARED, "alley(14, 0, 0) -> UNKNOWN", "alley(0, 0, 4) -> UNKNOWN",
                "alley(0, -1, 0) -> BAD_VALUE", "alley(0, 21, 0) -> BAD_VALUE");
        refused(s, 6, FULL_UP, "alley(1, 2, 0) -> FULL");
        refused(s, 7, PREPARED, "takeAlley(3) -> UNKNOWN", "takeAlley(-1) -> UNKNOWN");
        refused(s, 7, FULL_UP, "takeAlley(12) -> UNKNOWN");
    }

    private static void refusedTexts(Sentences s) {
        refused(s, 8, PREPARED, "tellAll() -> -108");
        refused(s, 8, PREPARED + "write 7-8*9:1;a5+6:2;7-7*9:1\n", "tellAll() -> BAD_VALUE");
        refused(s, 8, FULL_UP + "takeLane(3)\nwrite 7-8*9:1;7-8*9:1\n", "tellAll() -> FULL");
        refused(s, 8, FULL_UP + "takeAlley(3)\nwrite a5+6:2;a5+6:2\n", "tellAll() -> FULL");
        refused(s, 9, PREPARED + "52 x type('1')\n", "type('2') -> FULL");
        refused(s, 11, PREPARED + "type('a')\ntype('5')\n", "fault() -> 10");
        refused(s, 11, PREPARED + "write a5+6:2\n", "fault() -> NONE");
    }

    private static void refusedHistory(Sentences s) {
        refused(s, 12, "type('1')\nkeep()\n", "undo() -> NONE");
        refused(s, 12, "lane(0, 1, 1, 0)\nrank(5, 7)\nkeep()\nundo()\nundo()\n", "undo() -> NONE");
        refused(s, 14, QuestionBoundaries.TOWN, "restore() -> NONE");
        refused(s, 14, "rank(5, 7)\n", "restore() -> NONE");
    }

    private static void refusedQuestions(Sentences s) {
        refused(s, 15, PREPARED, "laneOf(7, 0) -> UNKNOWN", "laneOf(0, 7) -> BAD_VALUE");
        refused(s, 16, PREPARED, "alleyOf(3, 0) -> UNKNOWN", "alleyOf(0, 4) -> BAD_VALUE");
        refused(s, 17, PREPARED, "crossingOf(14, 0) -> UNKNOWN", "crossingOf(0, 6) -> BAD_VALUE");
        refused(s, 18, PREPARED, "within(4, 0, 0) -> UNKNOWN", "within(3, 0, 1) -> NONE");
        refused(s, 19, PREPARED, "total(14, 0, 0) -> UNKNOWN", "total(0, 0, 4) -> BAD_VALUE", "total(7, 0, 0) -> NONE",
                "total(4, 0, 2) -> NONE");
        refused(s, 20, PREPARED, "walk(0, 3, 0) -> UNKNOWN", "walk(0, 0, 3) -> BAD_VALUE", "walk(7, 0, 0) -> NONE");
        refused(s, 21, PREPARED, "shortest(0, 3) -> UNKNOWN", "shortest(7, 0) -> NONE");
        refused(s, 22, PREPARED, "stretch(0, 3) -> -1", "stretch(7, 0) -> -1");
        refused(s, 23, PREPARED, "count(10) -> BAD_VALUE");
        refused(s, 24, PREPARED, "ifClosed(7, 0) -> UNKNOWN", "ifClosed(0, 3) -> BAD_VALUE");
        refused(s, 25, FULL_UP + "close(23, true)\n", "weakest() -> NONE");
        refused(s, 26, PREPARED, "bestGate(0, 0) -> UNKNOWN", "bestGate(3, 3) -> BAD_VALUE", "bestGate(2, 0) -> NONE");
    }

    /** What would be is only told. */
    private static void questions(Sentences s) {
        refused(s, 24, PREPARED, "ifClosed(0, 0) -> 2", "ifClosed(2, 0) -> 0");
        refused(s, 25, PREPARED, "weakest() -> 5");
        refused(s, 26, PREPARED, "bestGate(1, 2) -> 9");
    }
}
