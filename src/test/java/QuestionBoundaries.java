/** The boundary cases of the promises 15 to 26: what is told, and what would be. */
final class QuestionBoundaries {
    /** Backbone 0-1-2, district 1 behind 0: 3-4, district 2 behind 2: 5-6; an alley in each of these three. */
    static final String TOWN = """
            lane(0, 1, 5, 0)
            lane(1, 2, 7, 0)
            lane(0, 3, 2, 1)
            lane(3, 4, 3, 1)
            lane(2, 5, 4, 2)
            lane(5, 6, 6, 2)
            alley(4, 1, 1)
            alley(6, 2, 2)
            alley(1, 3, 0)
            """;

    /** All crossings in a row of the longest lanes of the district 1. */
    private static final String CHAIN = """
            lane(0, 1, 20, 1)
            lane(1, 2, 20, 1)
            lane(2, 3, 20, 1)
            lane(3, 4, 20, 1)
            lane(4, 5, 20, 1)
            lane(5, 6, 20, 1)
            lane(6, 7, 20, 1)
            lane(7, 8, 20, 1)
            lane(8, 9, 20, 1)
            lane(9, 10, 20, 1)
            lane(10, 11, 20, 1)
            lane(11, 12, 20, 1)
            lane(12, 13, 20, 1)
            """;

    /** All crossings in seven pairs. */
    private static final String PAIRS = """
            lane(0, 1, 1, 1)
            lane(2, 3, 1, 1)
            lane(4, 5, 1, 1)
            lane(6, 7, 1, 1)
            lane(8, 9, 1, 1)
            lane(10, 11, 1, 1)
            lane(12, 13, 1, 1)
            """;

    private QuestionBoundaries() {
    }

    static void all(Sentences s) {
        laneOf(s);
        laneOfRefused(s);
        alleyOf(s);
        crossingOf(s);
        crossingOfRefused(s);
        within(s);
        total(s);
        totalRefused(s);
        walk(s);
        walkRefused(s);
        shortest(s);
        stretch(s);
        count(s);
        countPairs(s);
        ifClosed(s);
        ifClosedRefused(s);
        weakest(s);
        bestGate(s);
        bestGateTies(s);
        bestGateRefused(s);
    }

    private static void laneOf(Sentences s) {
        s.holds(15, "0 and 1 for its ends, as they came", """
                lane(0, 13, 1, 0)
                lane(13, 0, 1, 0)
                laneOf(0, 0) -> 0
                laneOf(0, 1) -> 13
                laneOf(1, 0) -> 13
                laneOf(1, 1) -> 0
                """);
        s.holds(15, "2 for its length", """
                lane(0, 1, 1, 0)
                lane(0, 1, 20, 0)
                laneOf(0, 2) -> 1
                laneOf(1, 2) -> 20
                """);
        s.holds(15, "3 for its district", """
                lane(0, 1, 1, 0)
                lane(0, 1, 1, 3)
                laneOf(0, 3) -> 0
                laneOf(1, 3) -> 3
                """);
        s.holds(15, "4 for whether it is closed (1, otherwise 0)", """
                lane(0, 1, 1, 0)
                laneOf(0, 4) -> 0
                rank(0, 0)
                rank(1, 0)
                laneOf(0, 4) -> 0
                close(0, true)
                laneOf(0, 4) -> 1
                """);
        s.holds(15, "5 for its clerk (NONE without one)", """
                lane(0, 13, 1, 0)
                laneOf(0, 5) -> 13
                rank(0, 2)
                laneOf(0, 5) -> 0
                close(0, true)
                laneOf(0, 5) -> 0
                rank(13, 0)
                rank(0, 0)
                laneOf(0, 5) -> NONE
                """);
        s.holds(15, "6 for whether it is told (1, otherwise 0)", """
                lane(0, 1, 1, 0)
                laneOf(0, 6) -> 1
                rank(0, 0)
                rank(1, 0)
                laneOf(0, 6) -> 0
                rank(1, 1)
                close(0, true)
                laneOf(0, 6) -> 0
                """);
    }

    private static void laneOfRefused(Sentences s) {
        s.holds(15, "`lane`: a lane", """
                laneOf(0, 0) -> UNKNOWN
                24 x lane(5, 6, 7, 1)
                laneOf(0, 0) -> 5
                laneOf(23, 2) -> 7
                laneOf(24, 0) -> UNKNOWN
                laneOf(-1, 0) -> UNKNOWN
                takeLane(0)
                laneOf(23, 0) -> UNKNOWN
                """);
        s.holds(15, "Returns the number; UNKNOWN; BAD_VALUE.", """
                laneOf(0, 0) -> UNKNOWN
                lane(0, 1, 1, 0)
                laneOf(0, 7) -> BAD_VALUE
                laneOf(0, -1) -> BAD_VALUE
                laneOf(0, MIN) -> BAD_VALUE
                laneOf(0, MAX) -> BAD_VALUE
                laneOf(MIN, 0) -> UNKNOWN
                laneOf(MAX, 0) -> UNKNOWN
                laneOf(1, 7) -> UNKNOWN
                laneOf(1, -1) -> UNKNOWN
                laneOf(0, 1) -> 1
                """);
    }

    private static void alleyOf(Sentences s) {
        s.holds(16, "`alley`: an alley", """
                alleyOf(0, 0) -> UNKNOWN
                12 x alley(5, 6, 1)
                alleyOf(0, 0) -> 5
                alleyOf(11, 1) -> 6
                alleyOf(12, 0) -> UNKNOWN
                alleyOf(-1, 0) -> UNKNOWN
                takeAlley(0)
                alleyOf(11, 0) -> UNKNOWN
                alleyOf(11, 3) -> UNKNOWN
                """);
        s.holds(16, "`what`: 0 for its crossing, 1 for its length, 2 for its district", """
                alley(0, 0, 0)
                alley(13, 20, 3)
                alleyOf(0, 0) -> 0
                alleyOf(0, 1) -> 0
                alleyOf(0, 2) -> 0
                alleyOf(1, 0) -> 13
                alleyOf(1, 1) -> 20
                alleyOf(1, 2) -> 3
                """);
        s.holds(16, "3 for how many crossings have a total for it", """
                alley(13, 20, 1)
                alleyOf(0, 3) -> 0
                """ + CHAIN + """
                alleyOf(0, 3) -> 14
                close(12, true)
                alleyOf(0, 3) -> 0
                close(12, false)
                close(11, true)
                alleyOf(0, 3) -> 2
                """);
        s.holds(16, "Returns the number; UNKNOWN; BAD_VALUE.", """
                alleyOf(0, 0) -> UNKNOWN
                alley(0, 1, 2)
                alleyOf(0, 4) -> BAD_VALUE
                alleyOf(0, -1) -> BAD_VALUE
                alleyOf(0, MIN) -> BAD_VALUE
                alleyOf(0, MAX) -> BAD_VALUE
                alleyOf(MIN, 0) -> UNKNOWN
                alleyOf(MAX, 0) -> UNKNOWN
                alleyOf(1, 4) -> UNKNOWN
                alleyOf(0, 2) -> 2
                """);
    }

    private static void crossingOf(Sentences s) {
        s.holds(17, "0 for its rank", """
                crossingOf(0, 0) -> 1
                rank(0, 0)
                rank(13, 9)
                crossingOf(0, 0) -> 0
                crossingOf(13, 0) -> 9
                """);
        s.holds(17, "1 for the districts that it is in, as a set", """
                crossingOf(0, 1) -> {}
                lane(0, 1, 1, 0)
                crossingOf(0, 1) -> {0}
                lane(0, 1, 1, 1)
                lane(2, 0, 1, 2)
                lane(0, 13, 1, 3)
                crossingOf(0, 1) -> {0, 1, 2, 3}
                crossingOf(13, 1) -> {3}
                """);
        s.holds(17, "2 for the districts of which it is a gate, as a set", """
                crossingOf(0, 2) -> {}
                lane(0, 13, 1, 1)
                lane(0, 13, 1, 2)
                lane(0, 13, 1, 3)
                crossingOf(13, 2) -> {}
                lane(13, 1, 1, 0)
                crossingOf(13, 2) -> {1, 2, 3}
                crossingOf(0, 2) -> {}
                crossingOf(1, 2) -> {}
                """);
        s.holds(17, "3 for lanes of which it is the clerk", """
                crossingOf(13, 3) -> 0
                24 x lane(0, 13, 1, 0)
                crossingOf(13, 3) -> 24
                crossingOf(0, 3) -> 0
                close(0, true)
                crossingOf(13, 3) -> 24
                rank(0, 9)
                crossingOf(13, 3) -> 0
                crossingOf(0, 3) -> 24
                rank(13, 0)
                rank(0, 0)
                crossingOf(0, 3) -> 0
                crossingOf(13, 3) -> 0
                """);
        s.holds(17, "4 for alleys for which it has a total", """
                crossingOf(0, 4) -> 0
                lane(0, 1, 1, 1)
                crossingOf(0, 4) -> 0
                12 x alley(1, 0, 1)
                crossingOf(0, 4) -> 12
                crossingOf(2, 4) -> 0
                takeAlley(0)
                crossingOf(0, 4) -> 11
                """);
        s.holds(17, "5 for the sum of these totals", CHAIN + """
                crossingOf(0, 5) -> 0
                11 x alley(13, 20, 1)
                alley(13, 20, 2)
                crossingOf(0, 5) -> 3080
                takeAlley(11)
                alley(13, 20, 1)
                crossingOf(0, 5) -> 3360
                crossingOf(13, 5) -> 240
                close(12, true)
                crossingOf(0, 5) -> 0
                """);
    }

    private static void crossingOfRefused(Sentences s) {
        s.holds(17, "`crossing`: 0 to 13", """
                crossingOf(-1, 0) -> UNKNOWN
                crossingOf(14, 0) -> UNKNOWN
                crossingOf(0, 0) -> 1
                crossingOf(13, 0) -> 1
                """);
        s.holds(17, "Returns the number; UNKNOWN; BAD_VALUE.", """
                crossingOf(0, 6) -> BAD_VALUE
                crossingOf(0, -1) -> BAD_VALUE
                crossingOf(0, MIN) -> BAD_VALUE
                crossingOf(0, MAX) -> BAD_VALUE
                crossingOf(MIN, 0) -> UNKNOWN
                crossingOf(MAX, 0) -> UNKNOWN
                crossingOf(14, 6) -> UNKNOWN
                crossingOf(-1, -1) -> UNKNOWN
                """);
    }

    private static void within(Sentences s) {
        s.holds(18, "`district`: 0 to 3", """
                lane(0, 1, 1, 0)
                lane(0, 1, 2, 3)
                within(0, 0, 1) -> 1
                within(3, 0, 1) -> 2
                within(-1, 0, 1) -> UNKNOWN
                within(4, 0, 1) -> UNKNOWN
                """);
        s.holds(18, "`one`: 0 to 13", """
                lane(0, 13, 1, 0)
                within(0, 0, 13) -> 1
                within(0, 13, 13) -> 0
                within(0, -1, 13) -> UNKNOWN
                within(0, 14, 13) -> UNKNOWN
                """);
        s.holds(18, "`other`: 0 to 13", """
                lane(0, 13, 1, 0)
                within(0, 13, 0) -> 1
                within(0, 13, 13) -> 0
                within(0, 13, -1) -> UNKNOWN
                within(0, 13, 14) -> UNKNOWN
                """);
        s.holds(18, "Returns its length", CHAIN + """
                within(1, 0, 13) -> 260
                within(1, 13, 0) -> 260
                within(1, 13, 13) -> 0
                lane(13, 0, 20, 1)
                within(1, 0, 13) -> 20
                within(1, 0, 7) -> 140
                """);
        s.holds(18, "UNKNOWN", """
                within(MIN, 0, 1) -> UNKNOWN
                within(MAX, 0, 1) -> UNKNOWN
                within(0, MIN, 1) -> UNKNOWN
                within(0, MAX, 1) -> UNKNOWN
                within(0, 1, MIN) -> UNKNOWN
                within(0, 1, MAX) -> UNKNOWN
                within(0, 14, 14) -> UNKNOWN
                """);
        s.holds(18, "NONE if there is none", """
                within(0, 0, 0) -> NONE
                lane(0, 1, 1, 0)
                lane(2, 3, 1, 0)
                within(0, 0, 2) -> NONE
                within(0, 4, 4) -> NONE
                lane(1, 2, 1, 1)
                within(0, 0, 2) -> NONE
                """);
    }

    private static void total(Sentences s) {
        s.holds(19, "0 for the total, 1 for by which rule, 1 to 3", TOWN + """
                total(4, 0, 0) -> 1
                total(4, 0, 1) -> 1
                total(1, 0, 0) -> 11
                total(1, 0, 1) -> 2
                total(5, 0, 0) -> 22
                total(5, 0, 1) -> 3
                new
                """ + CHAIN + """
                alley(13, 20, 1)
                alley(13, 0, 1)
                total(0, 0, 0) -> 280
                total(13, 1, 0) -> 0
                """);
        s.holds(19, "2 for the first step: the crossing to which it leads (NONE if there is no step)", CHAIN + """
                alley(13, 20, 1)
                alley(0, 0, 1)
                total(0, 0, 2) -> 1
                total(12, 0, 2) -> 13
                total(13, 0, 2) -> NONE
                total(1, 1, 2) -> 0
                total(0, 1, 2) -> NONE
                """);
        s.holds(19, "3 for the crossings to which steps lead, as a set", """
                lane(0, 1, 1, 1)
                lane(0, 2, 1, 1)
                lane(0, 3, 1, 1)
                lane(0, 4, 1, 1)
                lane(0, 5, 1, 1)
                lane(0, 6, 1, 1)
                lane(0, 7, 1, 1)
                lane(0, 8, 1, 1)
                lane(0, 9, 1, 1)
                lane(0, 10, 1, 1)
                lane(0, 11, 1, 1)
                lane(0, 12, 1, 1)
                lane(13, 1, 1, 1)
                lane(13, 2, 1, 1)
                lane(13, 3, 1, 1)
                lane(13, 4, 1, 1)
                lane(13, 5, 1, 1)
                lane(13, 6, 1, 1)
                lane(13, 7, 1, 1)
                lane(13, 8, 1, 1)
                lane(13, 9, 1, 1)
                lane(13, 10, 1, 1)
                lane(13, 11, 1, 1)
                lane(13, 12, 1, 1)
                alley(13, 0, 1)
                total(0, 0, 3) -> {1, 2, 3, 4, 5, 6, 7, 8, 9, 10, 11, 12}
                total(12, 0, 3) -> {13}
                total(13, 0, 3) -> {}
                """);
    }

    private static void totalRefused(Sentences s) {
        s.holds(19, "`crossing`: 0 to 13", CHAIN + """
                alley(13, 1, 1)
                total(0, 0, 0) -> 261
                total(13, 0, 0) -> 1
                total(-1, 0, 0) -> UNKNOWN
                total(14, 0, 0) -> UNKNOWN
                """);
        s.holds(19, "`alley`: an alley", """
                total(0, 0, 0) -> UNKNOWN
                lane(0, 1, 1, 1)
                11 x alley(0, 1, 1)
                alley(1, 1, 1)
                total(0, 0, 0) -> 1
                total(0, 11, 0) -> 2
                total(0, 12, 0) -> UNKNOWN
                total(0, -1, 0) -> UNKNOWN
                takeAlley(0)
                total(0, 11, 0) -> UNKNOWN
                total(0, 10, 0) -> 2
                """);
        s.holds(19, "Returns the number; UNKNOWN; BAD_VALUE; NONE if there is no total.", """
                lane(0, 1, 1, 1)
                alley(0, 0, 1)
                total(0, 0, 0) -> 0
                total(0, 0, -1) -> BAD_VALUE
                total(0, 0, 4) -> BAD_VALUE
                total(0, 0, MIN) -> BAD_VALUE
                total(0, 0, MAX) -> BAD_VALUE
                total(MIN, 0, 4) -> UNKNOWN
                total(MAX, 0, 0) -> UNKNOWN
                total(0, MIN, 0) -> UNKNOWN
                total(0, MAX, 4) -> UNKNOWN
                total(2, 0, 4) -> BAD_VALUE
                total(2, 0, 0) -> NONE
                total(2, 0, 1) -> NONE
                total(2, 0, 2) -> NONE
                total(2, 0, 3) -> NONE
                """);
    }

    private static void walk(Sentences s) {
        s.holds(20, "0 for how many steps it takes", CHAIN + """
                alley(13, 20, 1)
                walk(0, 0, 0) -> 13
                walk(12, 0, 0) -> 1
                walk(13, 0, 0) -> 0
                """);
        s.holds(20, "1 for the length of the lanes (of each step the shortest one that is a step to that crossing) and of"
                + " the alley, together", """
                lane(0, 1, 1, 0)
                lane(0, 4, 2, 1)
                alley(4, 10, 1)
                lane(7, 8, 5, 3)
                lane(7, 8, 3, 2)
                lane(8, 0, 4, 2)
                lane(8, 1, 1, 3)
                total(7, 0, 0) -> 19
                total(7, 0, 3) -> {8}
                walk(7, 0, 1) -> 17
                close(5, true)
                lane(8, 1, 9, 3)
                lane(7, 8, 1, 3)
                total(7, 0, 0) -> 19
                walk(7, 0, 1) -> 19
                walk(4, 0, 1) -> 10
                new
                """ + CHAIN + """
                alley(13, 20, 1)
                walk(0, 0, 1) -> 280
                """);
        s.holds(20, "2 for the crossings on the way, both ends too, as a set", CHAIN + """
                alley(13, 20, 1)
                walk(0, 0, 2) -> {0, 1, 2, 3, 4, 5, 6, 7, 8, 9, 10, 11, 12, 13}
                walk(12, 0, 2) -> {12, 13}
                walk(13, 0, 2) -> {13}
                """);
    }

    private static void walkRefused(Sentences s) {
        s.holds(20, "`crossing`: 0 to 13", CHAIN + """
                alley(13, 1, 1)
                walk(0, 0, 1) -> 261
                walk(13, 0, 1) -> 1
                walk(-1, 0, 0) -> UNKNOWN
                walk(14, 0, 0) -> UNKNOWN
                """);
        s.holds(20, "`alley`: an alley", """
                walk(0, 0, 0) -> UNKNOWN
                lane(0, 1, 1, 1)
                11 x alley(0, 1, 1)
                alley(1, 1, 1)
                walk(0, 0, 0) -> 0
                walk(0, 11, 0) -> 1
                walk(0, 12, 0) -> UNKNOWN
                walk(0, -1, 0) -> UNKNOWN
                takeAlley(0)
                walk(0, 11, 0) -> UNKNOWN
                """);
        s.holds(20, "UNKNOWN; BAD_VALUE", """
                lane(0, 1, 1, 1)
                alley(0, 0, 1)
                walk(0, 0, -1) -> BAD_VALUE
                walk(0, 0, 3) -> BAD_VALUE
                walk(0, 0, MIN) -> BAD_VALUE
                walk(0, 0, MAX) -> BAD_VALUE
                walk(2, 0, 3) -> BAD_VALUE
                walk(MIN, 0, 3) -> UNKNOWN
                walk(MAX, 0, 0) -> UNKNOWN
                walk(0, MIN, 0) -> UNKNOWN
                walk(0, MAX, 3) -> UNKNOWN
                """);
        s.holds(20, "Returns the number; UNKNOWN; BAD_VALUE; NONE if there is no total, or it does not arrive within 30"
                + " steps.", """
                lane(0, 1, 1, 1)
                alley(0, 0, 1)
                walk(2, 0, 0) -> NONE
                walk(2, 0, 1) -> NONE
                walk(2, 0, 2) -> NONE
                new
                lane(0, 1, 1, 0)
                lane(2, 3, 1, 0)
                lane(4, 0, 1, 2)
                lane(0, 2, 1, 2)
                lane(2, 5, 1, 1)
                alley(5, 0, 1)
                total(4, 0, 0) -> 3
                total(0, 0, 0) -> NONE
                walk(4, 0, 0) -> NONE
                walk(4, 0, 1) -> NONE
                walk(4, 0, 2) -> NONE
                new
                lane(5, 6, 1, 0)
                lane(2, 3, 1, 0)
                lane(4, 5, 1, 2)
                lane(5, 2, 1, 2)
                lane(2, 1, 1, 1)
                alley(1, 0, 1)
                total(4, 0, 0) -> 3
                total(5, 0, 0) -> NONE
                walk(4, 0, 0) -> NONE
                walk(5, 0, 0) -> NONE
                """);
    }

    private static void shortest(Sentences s) {
        s.holds(21, "Tells the shortest way to an alley by all lanes that are told, whatever their districts, and its"
                + " length.", """
                lane(0, 1, 1, 0)
                lane(1, 2, 2, 1)
                lane(2, 3, 3, 2)
                lane(3, 4, 4, 3)
                alley(4, 20, 0)
                shortest(0, 0) -> 30
                shortest(4, 0) -> 20
                lane(0, 4, 10, 2)
                shortest(0, 0) -> 30
                lane(0, 4, 9, 2)
                shortest(0, 0) -> 29
                """);
        s.holds(21, "`crossing`: 0 to 13", """
                lane(0, 13, 1, 0)
                alley(0, 0, 0)
                shortest(0, 0) -> 0
                shortest(13, 0) -> 1
                shortest(-1, 0) -> UNKNOWN
                shortest(14, 0) -> UNKNOWN
                """);
        s.holds(21, "`alley`: an alley", """
                shortest(0, 0) -> UNKNOWN
                12 x alley(0, 7, 0)
                shortest(0, 0) -> 7
                shortest(0, 11) -> 7
                shortest(0, 12) -> UNKNOWN
                shortest(0, -1) -> UNKNOWN
                """);
        s.holds(21, "Returns the sum", CHAIN + """
                alley(13, 20, 3)
                alley(13, 0, 3)
                shortest(0, 0) -> 280
                shortest(13, 1) -> 0
                """);
        s.holds(21, "UNKNOWN", """
                alley(0, 0, 0)
                shortest(MIN, 0) -> UNKNOWN
                shortest(MAX, 0) -> UNKNOWN
                shortest(0, MIN) -> UNKNOWN
                shortest(0, MAX) -> UNKNOWN
                shortest(0, 1) -> UNKNOWN
                """);
        s.holds(21, "NONE if there is no way", """
                alley(0, 0, 0)
                shortest(0, 0) -> 0
                shortest(1, 0) -> NONE
                lane(0, 1, 1, 3)
                shortest(1, 0) -> 1
                close(0, true)
                shortest(1, 0) -> NONE
                close(0, false)
                rank(0, 0)
                rank(1, 0)
                shortest(1, 0) -> NONE
                """);
    }

    private static void stretch(Sentences s) {
        s.holds(22, "`crossing`: 0 to 13", """
                lane(0, 13, 1, 1)
                alley(0, 1, 1)
                stretch(0, 0) -> 1
                stretch(13, 0) -> 1
                stretch(-1, 0) -> -1
                stretch(14, 0) -> -1
                """);
        s.holds(22, "`alley`: an alley", """
                stretch(0, 0) -> -1
                lane(0, 1, 1, 1)
                12 x alley(0, 1, 1)
                stretch(0, 0) -> 1
                stretch(0, 11) -> 1
                stretch(0, 12) -> -1
                stretch(0, -1) -> -1
                """);
        s.holds(22, "Returns the total, as a float, divided by the shortest sum, as a float", """
                lane(0, 1, 20, 1)
                lane(1, 2, 20, 1)
                lane(0, 2, 3, 2)
                alley(2, 0, 1)
                alley(2, 4, 1)
                stretch(0, 0) -> 40/3
                stretch(0, 1) -> 44/7
                stretch(1, 0) -> 1
                stretch(1, 1) -> 1
                stretch(2, 1) -> 1
                new
                """ + CHAIN + """
                lane(0, 13, 1, 2)
                alley(13, 0, 1)
                stretch(0, 0) -> 260
                """);
        s.holds(22, "1.0f if both are 0", """
                lane(0, 1, 1, 1)
                alley(0, 0, 1)
                stretch(0, 0) -> 1
                """);
        s.holds(22, "-1.0f if there is no such crossing or alley, or no total", """
                alley(0, 0, 1)
                stretch(0, 0) -> -1
                lane(0, 1, 1, 2)
                stretch(0, 0) -> -1
                stretch(1, 0) -> -1
                stretch(MIN, 0) -> -1
                stretch(MAX, 0) -> -1
                stretch(0, MIN) -> -1
                stretch(0, MAX) -> -1
                stretch(0, 1) -> -1
                """);
    }

    private static void count(Sentences s) {
        s.holds(23, "`what`: 0 for the lanes, 1 for those that are told, 2 for the alleys", """
                count(0) -> 0
                count(1) -> 0
                count(2) -> 0
                24 x lane(0, 1, 1, 0)
                12 x alley(0, 0, 0)
                count(0) -> 24
                count(1) -> 24
                count(2) -> 12
                close(0, true)
                close(23, true)
                count(0) -> 24
                count(1) -> 22
                rank(0, 0)
                rank(1, 0)
                count(1) -> 0
                """);
        s.holds(23, "3 for gates (each crossing once)", PAIRS + """
                count(3) -> 0
                lane(1, 2, 1, 0)
                count(3) -> 2
                lane(1, 2, 1, 2)
                lane(1, 2, 1, 3)
                count(3) -> 2
                lane(3, 4, 1, 0)
                lane(5, 6, 1, 0)
                lane(7, 8, 1, 0)
                lane(9, 10, 1, 0)
                lane(11, 12, 1, 0)
                count(3) -> 12
                lane(13, 0, 1, 0)
                count(3) -> 14
                """);
        s.holds(23, "8 for the states in the history", """
                count(8) -> 0
                rank(0, 2)
                count(8) -> 1
                rank(0, 3)
                rank(0, 4)
                rank(0, 5)
                count(8) -> 4
                rank(0, 6)
                count(8) -> 4
                undo() -> 3
                count(8) -> 3
                """);
        s.holds(23, "9 for the length of the text", """
                count(9) -> 0
                60 x type('x')
                count(9) -> 60
                type('x') -> FULL
                count(9) -> 60
                """);
        s.holds(23, "Returns the number; BAD_VALUE.", """
                count(-1) -> BAD_VALUE
                count(10) -> BAD_VALUE
                count(MIN) -> BAD_VALUE
                count(MAX) -> BAD_VALUE
                count(0) -> 0
                count(9) -> 0
                """);
    }

    private static void countPairs(Sentences s) {
        s.holds(23, "4 for pairs of a crossing, that is in some district, and an alley for which it has a total", """
                12 x alley(13, 0, 1)
                count(4) -> 0
                """ + CHAIN + """
                count(4) -> 168
                close(0, true)
                count(4) -> 156
                close(12, true)
                count(4) -> 0
                """);
        s.holds(23, "5 for such pairs without a total", """
                12 x alley(13, 0, 2)
                count(5) -> 0
                """ + PAIRS + """
                count(5) -> 168
                close(0, true)
                count(5) -> 144
                """);
        s.holds(23, "6 for those without a total though there is a shortest way", """
                12 x alley(13, 0, 2)
                count(6) -> 0
                """ + PAIRS + """
                count(6) -> 24
                close(6, true)
                count(6) -> 0
                lane(0, 13, 1, 3)
                count(6) -> 36
                """);
        s.holds(23, "7 for pairs with a total that is more than the shortest sum", """
                lane(0, 1, 2, 1)
                alley(1, 20, 1)
                alley(1, 0, 1)
                count(7) -> 0
                lane(0, 1, 2, 2)
                count(7) -> 0
                lane(1, 0, 1, 3)
                count(7) -> 2
                """);
    }

    private static void ifClosed(Sentences s) {
        s.holds(24, "0 for how many pairs of a crossing and an alley would lose their total", """
                lane(0, 1, 1, 1)
                ifClosed(0, 0) -> 0
                11 x alley(0, 0, 1)
                alley(13, 0, 1)
                ifClosed(0, 0) -> 22
                ifClosed(0, 1) -> 0
                lane(0, 1, 9, 1)
                ifClosed(0, 0) -> 0
                """);
        s.holds(24, "1 for how many would have a greater total", """
                lane(0, 1, 1, 1)
                lane(1, 0, 1, 1)
                12 x alley(0, 0, 1)
                ifClosed(0, 1) -> 0
                takeLane(1)
                lane(1, 0, 2, 1)
                ifClosed(0, 1) -> 12
                ifClosed(0, 0) -> 0
                ifClosed(1, 1) -> 0
                """);
        s.holds(24, "2 for how many would have a lesser one", """
                lane(0, 1, 20, 1)
                lane(1, 2, 20, 1)
                lane(0, 2, 1, 0)
                12 x alley(2, 0, 1)
                ifClosed(0, 2) -> 12
                ifClosed(0, 1) -> 0
                ifClosed(0, 0) -> 0
                ifClosed(2, 2) -> 0
                new
                lane(0, 1, 1, 0)
                lane(2, 3, 1, 0)
                lane(0, 4, 1, 2)
                lane(4, 2, 1, 2)
                lane(2, 5, 1, 1)
                alley(5, 0, 1)
                total(0, 0, 0) -> NONE
                ifClosed(0, 2) -> 0
                ifClosed(0, 1) -> 0
                ifClosed(0, 0) -> 0
                """);
        s.holds(24, "Tells what a lane that is told would change if it was closed.", TOWN + """
                ifClosed(0, 0) -> 10
                laneOf(0, 4) -> 0
                count(4) -> 21
                count(8) -> 4
                total(1, 0, 0) -> 11
                new
                lane(13, 12, 1, 0)
                lane(5, 6, 1, 1)
                lane(0, 1, 1, 2)
                alley(12, 0, 0)
                alley(13, 0, 0)
                alley(1, 0, 2)
                alley(0, 0, 2)
                ifClosed(1, 0) -> 0
                ifClosed(1, 1) -> 0
                ifClosed(0, 0) -> 4
                ifClosed(2, 0) -> 4
                new
                lane(0, 1, 1, 0)
                lane(0, 1, 2, 0)
                alley(0, 0, 0)
                ifClosed(0, 0) -> 0
                takeLane(1)
                ifClosed(0, 0) -> 2
                """);
    }

    private static void ifClosedRefused(Sentences s) {
        s.holds(24, "`lane`: a lane", """
                ifClosed(0, 0) -> UNKNOWN
                23 x lane(0, 1, 1, 0)
                lane(5, 6, 1, 1)
                alley(5, 0, 1)
                ifClosed(0, 0) -> 0
                ifClosed(23, 0) -> 2
                ifClosed(24, 0) -> UNKNOWN
                ifClosed(-1, 0) -> UNKNOWN
                """);
        s.holds(24, "Returns the number (0 if the lane is not told)", """
                lane(0, 1, 1, 1)
                alley(0, 0, 1)
                ifClosed(0, 0) -> 2
                close(0, true)
                ifClosed(0, 0) -> 0
                ifClosed(0, 1) -> 0
                ifClosed(0, 2) -> 0
                close(0, false)
                rank(0, 0)
                rank(1, 0)
                ifClosed(0, 0) -> 0
                """);
        s.holds(24, "UNKNOWN; BAD_VALUE", """
                lane(0, 1, 1, 1)
                ifClosed(0, -1) -> BAD_VALUE
                ifClosed(0, 3) -> BAD_VALUE
                ifClosed(0, MIN) -> BAD_VALUE
                ifClosed(0, MAX) -> BAD_VALUE
                ifClosed(MIN, 3) -> UNKNOWN
                ifClosed(MAX, 0) -> UNKNOWN
                ifClosed(1, 3) -> UNKNOWN
                close(0, true)
                ifClosed(0, 3) -> BAD_VALUE
                ifClosed(0, -1) -> BAD_VALUE
                """);
    }

    private static void weakest(Sentences s) {
        s.holds(25, "Returns the lane", """
                23 x lane(0, 1, 1, 0)
                lane(5, 6, 1, 1)
                alley(5, 0, 1)
                weakest() -> 23
                new
                lane(5, 6, 1, 1)
                alley(5, 0, 1)
                weakest() -> 0
                """);
        s.holds(25, "by whose closing the most pairs would lose their total", """
                lane(0, 1, 1, 1)
                lane(2, 3, 1, 2)
                lane(3, 4, 1, 2)
                alley(0, 0, 1)
                alley(2, 0, 2)
                weakest() -> 1
                alley(1, 0, 1)
                weakest() -> 0
                """);
        s.holds(25, "of several the one by which the most totals would be greater, of several the lowest", """
                lane(0, 1, 1, 1)
                lane(0, 1, 9, 1)
                lane(2, 3, 1, 2)
                lane(2, 3, 9, 2)
                alley(0, 0, 1)
                alley(2, 0, 2)
                weakest() -> 0
                alley(3, 0, 2)
                weakest() -> 2
                lane(5, 6, 1, 3)
                alley(6, 0, 3)
                weakest() -> 4
                lane(7, 8, 1, 3)
                alley(8, 0, 3)
                weakest() -> 4
                """);
        s.holds(25, "NONE if by none any pair would lose its total or have a greater one", """
                weakest() -> NONE
                lane(0, 1, 1, 0)
                weakest() -> NONE
                alley(2, 0, 0)
                weakest() -> NONE
                new
                lane(0, 1, 1, 1)
                alley(0, 0, 1)
                weakest() -> 0
                lane(0, 1, 1, 1)
                weakest() -> NONE
                close(1, true)
                weakest() -> 0
                close(0, true)
                weakest() -> NONE
                new
                lane(0, 1, 20, 1)
                lane(1, 2, 20, 1)
                lane(1, 2, 20, 1)
                lane(0, 2, 1, 0)
                alley(2, 0, 1)
                ifClosed(0, 2) -> 1
                weakest() -> NONE
                """);
    }

    private static void bestGate(Sentences s) {
        s.holds(26, "the one in the backbone that is not in the district", """
                lane(0, 1, 1, 0)
                lane(2, 3, 1, 1)
                lane(4, 5, 1, 0)
                lane(4, 6, 1, 1)
                lane(5, 6, 1, 1)
                alley(3, 0, 1)
                bestGate(1, 0) -> 0
                bestGate(1, 2) -> 2
                close(0, true)
                bestGate(1, 0) -> NONE
                """);
        s.holds(26, "to a crossing of it would give the most pairs a total that have none", """
                lane(0, 1, 1, 0)
                lane(4, 5, 1, 0)
                lane(5, 6, 1, 0)
                lane(2, 3, 20, 1)
                11 x alley(3, 0, 1)
                bestGate(1, 0) -> 4
                bestGate(1, 1) -> 2
                bestGate(1, 2) -> 33
                close(1, true)
                close(2, true)
                bestGate(1, 0) -> 0
                bestGate(1, 2) -> 22
                lane(0, 2, 20, 1)
                bestGate(1, 2) -> NONE
                new
                lane(0, 1, 1, 0)
                lane(2, 3, 1, 1)
                lane(4, 5, 1, 1)
                alley(5, 0, 1)
                bestGate(1, 0) -> 0
                bestGate(1, 1) -> 4
                bestGate(1, 2) -> 2
                """);
        s.holds(26, "2 for how many pairs have a total more than now then", """
                lane(0, 1, 1, 0)
                lane(2, 3, 1, 1)
                lane(13, 1, 1, 2)
                11 x alley(3, 0, 1)
                alley(12, 0, 1)
                bestGate(1, 2) -> 33
                bestGate(1, 2) -> 33
                count(0) -> 3
                count(4) -> 22
                count(8) -> 4
                """);
    }

    private static void bestGateTies(Sentences s) {
        s.holds(26, "of several the lowest, of several the lane to the lowest crossing", """
                lane(12, 13, 1, 0)
                lane(2, 1, 1, 1)
                lane(0, 1, 1, 1)
                alley(2, 0, 1)
                bestGate(1, 0) -> 12
                bestGate(1, 1) -> 0
                rank(0, 0)
                rank(12, 0)
                bestGate(1, 0) -> 12
                bestGate(1, 1) -> 1
                rank(12, 9)
                bestGate(1, 1) -> 0
                """);
        s.holds(26, "`what`: 0 for the crossing in the backbone, 1 for the crossing of the district", """
                lane(13, 12, 1, 0)
                lane(0, 1, 1, 3)
                alley(1, 0, 3)
                bestGate(3, 0) -> 12
                bestGate(3, 1) -> 0
                new
                lane(0, 1, 1, 0)
                lane(13, 12, 1, 3)
                alley(13, 0, 3)
                bestGate(3, 0) -> 0
                bestGate(3, 1) -> 12
                """);
    }

    private static void bestGateRefused(Sentences s) {
        s.holds(26, "`district`: 1 to 3", """
                lane(0, 1, 1, 0)
                lane(2, 3, 1, 1)
                lane(4, 5, 1, 3)
                alley(3, 0, 1)
                alley(5, 0, 3)
                bestGate(0, 0) -> UNKNOWN
                bestGate(4, 0) -> UNKNOWN
                bestGate(1, 2) -> 2
                bestGate(3, 2) -> 2
                """);
        s.holds(26, "Returns the number; UNKNOWN (district); BAD_VALUE", """
                bestGate(MIN, 0) -> UNKNOWN
                bestGate(MAX, 3) -> UNKNOWN
                bestGate(-1, -1) -> UNKNOWN
                bestGate(0, 3) -> UNKNOWN
                bestGate(4, 3) -> UNKNOWN
                bestGate(1, -1) -> BAD_VALUE
                bestGate(3, 3) -> BAD_VALUE
                bestGate(1, MIN) -> BAD_VALUE
                bestGate(1, MAX) -> BAD_VALUE
                lane(12, 13, 1, 0)
                lane(10, 11, 1, 1)
                alley(11, 0, 1)
                bestGate(1, 0) -> 12
                bestGate(1, 1) -> 10
                bestGate(1, 2) -> 2
                """);
        s.holds(26, "NONE if by none there are more", """
                bestGate(1, 0) -> NONE
                bestGate(3, 2) -> NONE
                lane(0, 1, 1, 0)
                alley(3, 0, 1)
                bestGate(1, 2) -> NONE
                lane(2, 3, 1, 1)
                bestGate(1, 2) -> 2
                rank(0, 0)
                rank(2, 0)
                rank(3, 0)
                bestGate(1, 0) -> NONE
                rank(3, 1)
                bestGate(1, 0) -> 0
                bestGate(1, 1) -> 3
                lane(0, 3, 1, 1)
                bestGate(1, 0) -> NONE
                bestGate(1, 1) -> NONE
                bestGate(1, 2) -> NONE
                """);
    }
}
