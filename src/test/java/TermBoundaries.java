/** The boundary cases that the document names before its promises: under "What it is" and "Terms". */
final class TermBoundaries {
    private TermBoundaries() {
    }

    static void all(Sentences s) {
        lastCall(s);
        numbersOfThings(s);
        lanes(s);
        clerks(s);
        districts(s);
        alleys(s);
        within(s);
        ruleOne(s);
        ruleTwo(s);
        ruleThree(s);
        ways(s);
        steps(s);
        parts(s);
        numbers(s);
        faults(s);
        history(s);
        snapshot(s);
        errors(s);
        orderOfErrors(s);
    }

    private static void lastCall(Sentences s) {
        s.term(19, "An object is used for at most 512 calls after it has been made", """
                lane(0, 1, 3, 0)
                alley(1, 2, 0)
                keep()
                507 x restore() -> 1
                count(8) -> 4
                total(0, 0, 0) -> 5
                new
                lane(0, 1, 3, 0)
                lane(2, 3, 3, 1)
                alley(3, 2, 1)
                254 x bestGate(1, 2) -> 2
                255 x weakest() -> 1
                """);
    }

    private static void numbersOfThings(Sentences s) {
        s.term(2, "There are 14 crossings, 0 to 13, and 4 districts: 0 is the backbone.", """
                lane(0, 13, 1, 0) -> 0
                lane(13, 0, 1, 3) -> 1
                lane(-1, 13, 1, 0) -> UNKNOWN
                lane(0, 14, 1, 0) -> UNKNOWN
                lane(0, 13, 1, -1) -> UNKNOWN
                lane(0, 13, 1, 4) -> UNKNOWN
                crossingOf(0, 1) -> {0, 3}
                crossingOf(13, 2) -> {3}
                crossingOf(14, 2) -> UNKNOWN
                """);
        s.term(2, "There are at most 24 lanes, numbered from 0 in the order in which they came", """
                lane(2, 3, 4, 1) -> 0
                22 x lane(0, 1, 1, 0)
                lane(4, 5, 6, 2) -> 23
                lane(6, 7, 8, 3) -> FULL
                count(0) -> 24
                laneOf(0, 0) -> 2
                laneOf(1, 0) -> 0
                laneOf(23, 0) -> 4
                laneOf(24, 0) -> UNKNOWN
                takeLane(0) -> 23
                lane(6, 7, 8, 3) -> 23
                lane(6, 7, 8, 3) -> FULL
                """);
        s.term(3, "(when one is taken away, those behind it move up)", """
                lane(2, 3, 4, 1)
                lane(6, 7, 8, 3)
                21 x lane(0, 1, 1, 0)
                lane(4, 5, 6, 2)
                close(23, true)
                close(1, true)
                takeLane(1) -> 23
                laneOf(0, 0) -> 2
                laneOf(0, 4) -> 0
                laneOf(1, 0) -> 0
                laneOf(22, 0) -> 4
                laneOf(22, 1) -> 5
                laneOf(22, 2) -> 6
                laneOf(22, 3) -> 2
                laneOf(22, 4) -> 1
                laneOf(23, 0) -> UNKNOWN
                takeLane(22) -> 22
                laneOf(0, 0) -> 2
                laneOf(21, 0) -> 0
                takeLane(0) -> 21
                laneOf(0, 0) -> 0
                laneOf(20, 0) -> 0
                laneOf(21, 0) -> UNKNOWN
                """);
    }

    private static void lanes(Sentences s) {
        s.term(2, "A lane joins two unlike crossings, has a length (1 to 20)", """
                lane(0, 0, 1, 0) -> BAD_VALUE
                lane(13, 13, 20, 3) -> BAD_VALUE
                lane(0, 13, 0, 0) -> BAD_VALUE
                lane(0, 13, 21, 0) -> BAD_VALUE
                count(0) -> 0
                lane(0, 13, 1, 0) -> 0
                lane(13, 0, 20, 0) -> 1
                laneOf(0, 2) -> 1
                laneOf(1, 2) -> 20
                """);
        s.term(4, "and is open (at first) or closed", """
                lane(0, 1, 1, 0)
                lane(2, 3, 1, 0)
                laneOf(0, 4) -> 0
                laneOf(1, 4) -> 0
                close(0, false) -> NONE
                close(1, true)
                takeLane(1) -> 1
                lane(4, 5, 1, 0) -> 1
                laneOf(1, 4) -> 0
                write 6-7*1:0
                tellAll() -> 1
                laneOf(2, 4) -> 0
                """);
        s.term(18, "Between two crossings several lanes can be.", """
                lane(0, 1, 9, 1) -> 0
                lane(1, 0, 4, 1) -> 1
                lane(0, 1, 4, 1) -> 2
                lane(0, 1, 2, 2) -> 3
                20 x lane(1, 0, 8, 1)
                count(1) -> 24
                within(1, 0, 1) -> 4
                within(2, 0, 1) -> 2
                """);
        s.term(15, "A lane is told if it is open and has a clerk.", """
                lane(0, 1, 1, 0)
                laneOf(0, 6) -> 1
                close(0, true) -> 0
                laneOf(0, 6) -> 0
                rank(0, 0)
                rank(1, 0)
                laneOf(0, 6) -> 0
                close(0, false) -> 0
                laneOf(0, 6) -> 0
                rank(1, 1)
                laneOf(0, 6) -> 1
                count(1) -> 1
                """);
    }

    private static void clerks(Sentences s) {
        s.term(5, "Each crossing has a rank, 0 to 9 (1 at first).", """
                crossingOf(0, 0) -> 1
                crossingOf(13, 0) -> 1
                rank(0, -1) -> BAD_VALUE
                rank(13, 10) -> BAD_VALUE
                rank(0, 0) -> 1
                rank(13, 9) -> 1
                crossingOf(0, 0) -> 0
                crossingOf(13, 0) -> 9
                crossingOf(1, 0) -> 1
                crossingOf(12, 0) -> 1
                """);
        s.term(15, "The clerk of a lane is the end with the higher rank", """
                lane(0, 13, 1, 0)
                lane(13, 0, 1, 0)
                rank(0, 2)
                laneOf(0, 5) -> 0
                laneOf(1, 5) -> 0
                rank(0, 9)
                rank(13, 8)
                laneOf(0, 5) -> 0
                rank(0, 7)
                laneOf(0, 5) -> 13
                laneOf(1, 5) -> 13
                """);
        s.term(15, "of two as high the one with the higher number", """
                lane(0, 1, 1, 0)
                lane(13, 12, 1, 0)
                laneOf(0, 5) -> 1
                laneOf(1, 5) -> 13
                rank(0, 9)
                rank(1, 9)
                laneOf(0, 5) -> 1
                crossingOf(12, 3) -> 0
                """);
        s.term(15, "it has none if both ranks are 0", """
                lane(0, 13, 1, 0)
                rank(0, 0)
                laneOf(0, 5) -> 13
                rank(13, 0)
                laneOf(0, 5) -> NONE
                crossingOf(0, 3) -> 0
                crossingOf(13, 3) -> 0
                rank(0, 1)
                laneOf(0, 5) -> 0
                """);
    }

    private static void districts(Sentences s) {
        s.term(17, "A crossing is in a district if a lane that is told, and is in the district, ends there.", """
                crossingOf(0, 1) -> {}
                lane(0, 1, 1, 2)
                lane(0, 2, 1, 2)
                lane(0, 3, 1, 3)
                crossingOf(0, 1) -> {2, 3}
                crossingOf(3, 1) -> {3}
                close(0, true)
                crossingOf(0, 1) -> {2, 3}
                crossingOf(1, 1) -> {}
                rank(0, 0)
                rank(2, 0)
                crossingOf(0, 1) -> {3}
                crossingOf(2, 1) -> {}
                close(2, true)
                crossingOf(0, 1) -> {}
                """);
        s.term(17, "It is a gate of a district, 1 to 3, if it is in this district and in the backbone.", """
                lane(0, 1, 1, 0)
                lane(0, 2, 1, 1)
                lane(0, 3, 1, 3)
                lane(2, 3, 1, 2)
                crossingOf(0, 2) -> {1, 3}
                crossingOf(1, 2) -> {}
                crossingOf(2, 2) -> {}
                crossingOf(3, 2) -> {}
                count(3) -> 1
                close(0, true)
                crossingOf(0, 2) -> {}
                count(3) -> 0
                """);
    }

    private static void alleys(Sentences s) {
        s.term(6, "There are at most 12 alleys, numbered from 0 in the order in which they came", """
                alley(2, 3, 1) -> 0
                10 x alley(0, 1, 0)
                alley(4, 5, 2) -> 11
                alley(6, 7, 3) -> FULL
                count(2) -> 12
                alleyOf(0, 0) -> 2
                alleyOf(1, 0) -> 0
                alleyOf(11, 0) -> 4
                alleyOf(12, 0) -> UNKNOWN
                takeAlley(0) -> 11
                alley(6, 7, 3) -> 11
                alley(6, 7, 3) -> FULL
                """);
        s.term(7, "(those behind one that is taken away move up)", """
                alley(2, 3, 1)
                alley(6, 7, 3)
                9 x alley(0, 1, 0)
                alley(4, 5, 2)
                takeAlley(1) -> 11
                alleyOf(0, 0) -> 2
                alleyOf(0, 2) -> 1
                alleyOf(1, 0) -> 0
                alleyOf(10, 0) -> 4
                alleyOf(10, 1) -> 5
                alleyOf(10, 2) -> 2
                alleyOf(11, 0) -> UNKNOWN
                takeAlley(10) -> 10
                alleyOf(0, 0) -> 2
                alleyOf(9, 0) -> 0
                takeAlley(0) -> 9
                alleyOf(0, 0) -> 0
                alleyOf(9, 0) -> UNKNOWN
                """);
        s.term(6, "An alley is at a crossing, in a district, and has a length of its own (0 to 20).", """
                alley(0, -1, 0) -> BAD_VALUE
                alley(0, 21, 0) -> BAD_VALUE
                count(2) -> 0
                alley(0, 0, 0) -> 0
                alley(13, 20, 3) -> 1
                alleyOf(0, 1) -> 0
                alleyOf(1, 1) -> 20
                """);
    }

    private static void within(Sentences s) {
        s.term(18, "Within a district the way between two crossings is the shortest one by lanes of this district that are"
                + " told", """
                lane(0, 1, 20, 1)
                lane(0, 2, 9, 1)
                lane(2, 1, 11, 1)
                within(1, 0, 1) -> 20
                lane(1, 2, 10, 1)
                within(1, 0, 1) -> 19
                within(1, 1, 0) -> 19
                lane(0, 1, 1, 2)
                within(1, 0, 1) -> 19
                close(3, true)
                within(1, 0, 1) -> 20
                new
                lane(13, 5, 1, 0)
                lane(0, 5, 1, 2)
                lane(5, 6, 1, 1)
                within(0, 13, 6) -> NONE
                within(2, 0, 6) -> NONE
                within(1, 5, 6) -> 1
                """);
        s.term(18, "0 from a crossing that is in the district to itself", """
                lane(0, 13, 3, 2)
                within(2, 0, 0) -> 0
                within(2, 13, 13) -> 0
                """);
        s.term(18, "from one that is not in it there is none", """
                lane(0, 13, 3, 2)
                within(1, 0, 0) -> NONE
                within(2, 1, 1) -> NONE
                within(2, 1, 0) -> NONE
                within(2, 0, 1) -> NONE
                close(0, true)
                within(2, 0, 0) -> NONE
                within(2, 0, 13) -> NONE
                """);
    }

    private static void ruleOne(Sentences s) {
        s.term(19, "if the crossing is in the district of the alley, and there is a way within it to the crossing of the"
                + " alley", """
                alley(2, 5, 1)
                total(2, 0, 0) -> NONE
                lane(2, 3, 1, 2)
                total(2, 0, 0) -> NONE
                lane(2, 4, 1, 1)
                total(2, 0, 0) -> 5
                total(2, 0, 1) -> 1
                total(4, 0, 0) -> 6
                total(3, 0, 0) -> NONE
                lane(5, 6, 1, 1)
                total(5, 0, 0) -> NONE
                """);
        s.term(19, "this way and the length of the alley (whatever others there are)", """
                lane(0, 1, 20, 1)
                lane(1, 2, 20, 1)
                lane(0, 2, 1, 0)
                lane(0, 2, 1, 2)
                alley(2, 0, 1)
                total(0, 0, 0) -> 40
                total(0, 0, 1) -> 1
                shortest(0, 0) -> 1
                """);
    }

    private static void ruleTwo(Sentences s) {
        s.term(19, "otherwise, for a crossing that is in the backbone (3 is not for these)", """
                lane(0, 1, 1, 0)
                lane(2, 3, 1, 0)
                lane(0, 4, 1, 2)
                lane(4, 2, 1, 2)
                lane(2, 5, 1, 1)
                alley(5, 0, 1)
                total(4, 0, 0) -> 2
                total(4, 0, 1) -> 3
                total(0, 0, 0) -> NONE
                total(0, 0, 1) -> NONE
                close(0, true)
                total(0, 0, 0) -> 3
                total(0, 0, 1) -> 3
                """);
        s.term(19, "the least sum of the way within the backbone to a gate of the alley's district, the way within that"
                + " district from this gate to the crossing of the alley, and the length of the alley; none if there is none",
                """
                lane(0, 1, 1, 0)
                lane(0, 2, 9, 0)
                lane(1, 3, 20, 1)
                lane(2, 3, 12, 1)
                alley(3, 7, 1)
                total(0, 0, 0) -> 28
                lane(2, 4, 1, 1)
                lane(4, 3, 10, 1)
                total(0, 0, 0) -> 27
                close(1, true)
                total(0, 0, 0) -> 28
                close(2, true)
                total(0, 0, 0) -> NONE
                new
                lane(0, 1, 1, 0)
                lane(1, 2, 1, 1)
                lane(3, 4, 1, 1)
                alley(4, 0, 1)
                total(0, 0, 0) -> NONE
                lane(5, 6, 1, 0)
                lane(6, 3, 1, 1)
                total(0, 0, 0) -> NONE
                total(5, 0, 0) -> 3
                """);
        s.term(19, "By 2 for an alley of the backbone there is none.", """
                lane(0, 1, 1, 0)
                lane(2, 3, 1, 0)
                lane(1, 2, 1, 1)
                alley(3, 0, 0)
                total(2, 0, 1) -> 1
                total(1, 0, 0) -> NONE
                total(0, 0, 0) -> NONE
                lane(0, 4, 1, 2)
                total(4, 0, 0) -> NONE
                lane(4, 2, 9, 2)
                total(4, 0, 0) -> 10
                total(4, 0, 1) -> 3
                total(0, 0, 0) -> NONE
                """);
    }

    private static void ruleThree(Sentences s) {
        s.term(19, "the least sum of the way, within a district 1 to 3 that the crossing is in, to a gate of this district,"
                + " and the total of the alley for that gate by 1 or 2; none if there is none.", """
                alley(9, 4, 1)
                lane(0, 9, 2, 1)
                lane(5, 0, 20, 3)
                total(5, 0, 0) -> NONE
                lane(0, 1, 1, 0)
                total(5, 0, 0) -> 26
                total(5, 0, 1) -> 3
                lane(5, 1, 18, 2)
                total(5, 0, 0) -> 25
                close(1, true)
                total(5, 0, 0) -> 25
                close(3, true)
                total(5, 0, 0) -> NONE
                close(1, false)
                total(5, 0, 0) -> 26
                close(2, true)
                total(5, 0, 0) -> NONE
                new
                lane(0, 1, 1, 0)
                lane(0, 2, 1, 1)
                alley(9, 0, 3)
                total(2, 0, 0) -> NONE
                """);
    }

    private static void ways(Sentences s) {
        s.term(19, "by 1, a lane of the alley's district, with which its length and the way from there, within the district,"
                + " to the alley's crossing are the way", """
                lane(0, 1, 1, 1)
                lane(1, 3, 2, 1)
                lane(0, 2, 2, 1)
                lane(2, 3, 1, 1)
                lane(0, 3, 4, 1)
                lane(0, 3, 1, 2)
                alley(3, 0, 1)
                total(0, 0, 3) -> {1, 2}
                takeLane(4)
                lane(0, 3, 3, 1)
                total(0, 0, 3) -> {1, 2, 3}
                close(0, true)
                total(0, 0, 3) -> {2, 3}
                new
                lane(3, 4, 3, 1)
                lane(4, 5, 1, 1)
                lane(0, 5, 2, 1)
                lane(13, 5, 2, 0)
                lane(8, 9, 2, 1)
                alley(5, 0, 1)
                total(3, 0, 0) -> 4
                total(3, 0, 3) -> {4}
                """);
        s.term(19, "by 2, a lane of the backbone, with which its length and the way from there, within the backbone, to a"
                + " gate with which the sum is the least, are the way to that gate", """
                lane(0, 1, 1, 0)
                lane(0, 2, 2, 0)
                lane(0, 3, 3, 0)
                lane(1, 9, 5, 1)
                lane(2, 9, 4, 1)
                lane(3, 9, 4, 1)
                lane(0, 4, 1, 2)
                alley(9, 0, 1)
                total(0, 0, 3) -> {1, 2}
                lane(4, 2, 1, 0)
                total(0, 0, 3) -> {1, 2}
                lane(0, 4, 1, 0)
                total(0, 0, 3) -> {1, 2, 4}
                close(4, true)
                total(0, 0, 3) -> {1}
                """);
        s.term(19, "by 3, a lane of the district, with which its length and the way from there, within this district, to a"
                + " gate with which the sum is the least, are the way to that gate", """
                lane(0, 1, 2, 0)
                alley(1, 0, 0)
                lane(5, 0, 1, 1)
                lane(5, 6, 1, 2)
                lane(6, 1, 2, 2)
                lane(5, 1, 4, 3)
                lane(5, 7, 1, 1)
                lane(7, 0, 1, 1)
                total(5, 0, 3) -> {0, 6}
                takeLane(4)
                lane(5, 1, 3, 3)
                total(5, 0, 3) -> {0, 1, 6}
                lane(6, 0, 1, 3)
                total(5, 0, 3) -> {0, 1, 6}
                close(1, true)
                total(5, 0, 3) -> {1, 6}
                new
                lane(0, 1, 4, 0)
                lane(5, 0, 3, 2)
                lane(5, 6, 1, 2)
                lane(6, 1, 2, 3)
                lane(0, 9, 7, 1)
                lane(1, 9, 7, 1)
                alley(9, 0, 1)
                total(5, 0, 0) -> 10
                total(6, 0, 0) -> 9
                total(5, 0, 3) -> {0}
                """);
    }

    private static void steps(Sentences s) {
        s.term(19, "There is no step from the alley's crossing by 1.", """
                lane(0, 13, 1, 1)
                lane(0, 13, 1, 0)
                alley(13, 0, 1)
                total(13, 0, 0) -> 0
                total(13, 0, 1) -> 1
                total(13, 0, 2) -> NONE
                total(13, 0, 3) -> {}
                total(0, 0, 2) -> 13
                """);
        s.term(19, "The first step is the one to the lowest crossing.", """
                lane(5, 13, 1, 1)
                lane(13, 9, 1, 1)
                lane(5, 1, 1, 1)
                lane(1, 9, 1, 1)
                lane(5, 0, 1, 1)
                lane(0, 9, 1, 1)
                alley(9, 0, 1)
                total(5, 0, 3) -> {0, 1, 13}
                total(5, 0, 2) -> 0
                close(5, true)
                total(5, 0, 2) -> 1
                close(2, true)
                total(5, 0, 2) -> 13
                close(0, true)
                total(5, 0, 2) -> NONE
                """);
        s.term(20, "until the crossing is that of the alley and it is told by 1", """
                lane(0, 1, 1, 1)
                lane(1, 2, 1, 1)
                alley(1, 3, 1)
                walk(1, 0, 0) -> 0
                walk(1, 0, 1) -> 3
                walk(1, 0, 2) -> {1}
                walk(0, 0, 0) -> 1
                walk(0, 0, 2) -> {0, 1}
                walk(2, 0, 2) -> {1, 2}
                """);
    }

    private static void parts(Sentences s) {
        s.term(9, "There is a text of at most 60 characters, empty at first.", """
                count(9) -> 0
                fault() -> 0
                clearText() -> 0
                59 x type('0')
                type(';') -> 60
                type('0') -> FULL
                count(9) -> 60
                """);
        s.term(11, "A text is one or more parts with \";\" between two", """
                write
                fault() -> 0
                write ;
                fault() -> 0
                write a0+0:0
                fault() -> NONE
                write ;a0+0:0
                fault() -> 0
                write a0+0:0;;a0+0:0
                fault() -> 7
                write a0+0:0;
                fault() -> 7
                write a0+0:0;0-1*1:0
                fault() -> NONE
                write a0+0:0a0+0:0
                fault() -> 6
                write 0-1*1:0,0-1*1:0
                fault() -> 7
                write a0+0:0;a0+0:0;a0+0:0;a0+0:0;a0+0:0;a0+0:0;a0+0:0;13-12*20:3
                count(9) -> 59
                fault() -> NONE
                tellAll() -> 8
                """);
        s.term(11, "a crossing, \"-\", a crossing, \"*\", a length (1 to 20), \":\", a district (0 to 3): a lane comes", """
                write 0-13*1:0;13-0*20:3;5-6*10:1
                fault() -> NONE
                tellAll() -> 3
                laneOf(0, 1) -> 13
                laneOf(1, 2) -> 20
                laneOf(1, 3) -> 3
                laneOf(2, 2) -> 10
                write 0-1*0:0
                fault() -> 4
                write 0-1*21:0
                fault() -> 5
                write 0-1*1:4
                fault() -> 6
                write 0-14*1:0
                fault() -> 3
                write 14-0*1:0
                fault() -> 1
                """);
        s.term(11, "\"a\", a crossing, \"+\", a length (0 to 20), \":\", a district: an alley comes", """
                write a0+0:0;a13+20:3
                fault() -> NONE
                tellAll() -> 2
                alleyOf(0, 1) -> 0
                alleyOf(1, 0) -> 13
                alleyOf(1, 1) -> 20
                alleyOf(1, 2) -> 3
                write a0+21:0
                fault() -> 4
                write a0+0:4
                fault() -> 5
                write a14+0:0
                fault() -> 2
                write A0+0:0
                fault() -> 0
                """);
    }

    private static void numbers(Sentences s) {
        s.term(11, "Numbers have no zero in front", """
                write 00-1*1:0
                fault() -> 1
                write 01-1*1:0
                fault() -> 1
                write 0-01*1:0
                fault() -> 3
                write 0-1*01:0
                fault() -> 4
                write 0-1*1:00
                fault() -> 7
                write 0-1*1:01
                fault() -> 7
                write a00+0:0
                fault() -> 2
                write a0+00:0
                fault() -> 4
                write a0+020:0
                fault() -> 4
                write a0+0:00
                fault() -> 6
                """);
        s.term(11, "unless they are the single digit 0", """
                write 0-0*1:0
                fault() -> NONE
                write a0+0:0
                fault() -> NONE
                write 10-10*10:0;a10+10:0
                fault() -> NONE
                """);
        s.term(11, "a digit by which a number would be greater than told is not allowed", """
                write 13-13*20:3;a13+20:3
                fault() -> NONE
                write 14-1*1:0
                fault() -> 1
                write 20-1*1:0
                fault() -> 1
                write 90-1*1:0
                fault() -> 1
                write 130-1*1:0
                fault() -> 2
                write 0-19*1:0
                fault() -> 3
                write 0-1*21:0
                fault() -> 5
                write 0-1*30:0
                fault() -> 5
                write 0-1*200:0
                fault() -> 6
                write 0-1*1:9
                fault() -> 6
                write 0-1*1:10
                fault() -> 7
                write a13+29:0
                fault() -> 5
                """);
    }

    private static void faults(Sentences s) {
        s.term(11, "the index, from 0, of the first character that is not allowed at its place", """
                write x-y*1:0
                fault() -> 0
                write 0+1*1:0
                fault() -> 1
                write 0--*1:0
                fault() -> 2
                write 0-1:1:0
                fault() -> 3
                write 0-1**:0
                fault() -> 4
                write 0-1*1*0
                fault() -> 5
                write 0-1*1:-
                fault() -> 6
                write a0-1*1:0
                fault() -> 2
                write aa
                fault() -> 1
                write a0+0:0;a0+0:0;b
                fault() -> 14
                write
                type(304) -> 1
                fault() -> 0
                write 0-1*1:
                type(65328) -> 7
                fault() -> 6
                write 0-1*1:0
                type(315) -> 8
                type(0) -> 9
                fault() -> 7
                """);
        s.term(11, "or the length of the text if it ends too early (the empty text does)", """
                fault() -> 0
                type('1') -> 1
                fault() -> 1
                type('3') -> 2
                fault() -> 2
                type('-') -> 3
                fault() -> 3
                type('0') -> 4
                fault() -> 4
                type('*') -> 5
                fault() -> 5
                type('2') -> 6
                fault() -> 6
                type('0') -> 7
                fault() -> 7
                type(':') -> 8
                fault() -> 8
                type('3') -> 9
                fault() -> NONE
                type(';') -> 10
                fault() -> 10
                type('a') -> 11
                fault() -> 11
                type('0') -> 12
                fault() -> 12
                type('+') -> 13
                fault() -> 13
                type('0') -> 14
                fault() -> 14
                type(':') -> 15
                fault() -> 15
                type('0') -> 16
                fault() -> NONE
                write a13+20:3;a13+20:3;a13+20:3;a13+20:3;a13+20:3;a13+20:3;a13+20
                count(9) -> 60
                fault() -> 60
                """);
    }

    private static void history(Sentences s) {
        s.term(12, "A history of at most 4 states is kept; when one more is recorded, the oldest one is dropped", """
                count(8) -> 0
                lane(0, 1, 1, 0)
                lane(0, 1, 1, 0)
                lane(0, 1, 1, 0)
                count(8) -> 3
                lane(0, 1, 1, 0)
                count(8) -> 4
                lane(0, 1, 1, 0)
                lane(0, 1, 1, 0)
                count(8) -> 4
                undo() -> 3
                undo() -> 2
                undo() -> 1
                undo() -> 0
                count(0) -> 2
                undo() -> NONE
                count(0) -> 2
                """);
        s.term(12, "undo() removes and restores the latest one", """
                rank(0, 2)
                rank(0, 3)
                undo() -> 1
                crossingOf(0, 0) -> 2
                rank(0, 4)
                undo() -> 1
                crossingOf(0, 0) -> 2
                undo() -> 0
                crossingOf(0, 0) -> 1
                undo() -> NONE
                """);
        s.term(12, "Each call of a method that is described as an act, and returns no error and not NONE, records the state"
                + " that was before it.", """
                lane(0, 1, 1, 0)
                alley(0, 1, 0)
                rank(0, 2)
                close(0, true)
                count(8) -> 4
                undo() -> 3
                laneOf(0, 4) -> 0
                undo() -> 2
                crossingOf(0, 0) -> 1
                undo() -> 1
                count(2) -> 0
                undo() -> 0
                count(0) -> 0
                write 0-1*1:0;1-2*1:0;a0+0:0
                tellAll() -> 3
                count(8) -> 1
                keep()
                takeAlley(0) -> 0
                takeLane(1) -> 1
                restore() -> 2
                count(8) -> 4
                undo() -> 3
                count(0) -> 1
                undo() -> 2
                count(0) -> 2
                undo() -> 1
                count(2) -> 1
                undo() -> 0
                count(2) -> 0
                fault() -> NONE
                count(8) -> 0
                lane(0, 0, 1, 0) -> BAD_VALUE
                rank(0, 1) -> NONE
                count(8) -> 0
                """);
    }

    private static void snapshot(Sentences s) {
        s.term(14, "There is one snapshot, empty at first.", """
                restore() -> NONE
                lane(0, 1, 1, 0)
                restore() -> NONE
                count(0) -> 1
                keep() -> 1
                lane(0, 1, 1, 0)
                keep() -> 2
                lane(0, 1, 1, 0)
                restore() -> 2
                lane(0, 1, 1, 0)
                restore() -> 2
                """);
        s.term(14, "A state is everything but the text, the history and the snapshot.", """
                lane(0, 1, 1, 0)
                alley(1, 2, 0)
                keep()
                rank(0, 5)
                close(0, true)
                type('x')
                restore() -> 1
                crossingOf(0, 0) -> 1
                laneOf(0, 4) -> 0
                total(0, 0, 0) -> 3
                count(9) -> 1
                count(8) -> 4
                undo() -> 3
                crossingOf(0, 0) -> 5
                laneOf(0, 4) -> 1
                total(0, 0, 0) -> NONE
                count(9) -> 1
                keep()
                undo() -> 2
                restore() -> 1
                laneOf(0, 4) -> 1
                """);
    }

    private static void errors(Sentences s) {
        s.term(1, "`UNKNOWN = -1`: There is no such crossing, lane, alley or district.", """
                total(14, 0, 0) -> -1
                laneOf(0, 0) -> -1
                alleyOf(0, 0) -> -1
                within(4, 0, 0) -> -1
                """);
        s.term(1, "`BAD_VALUE = -2`: Another argument is out of range.", """
                rank(0, 10) -> -2
                count(10) -> -2
                crossingOf(0, 6) -> -2
                """);
        s.term(1, "`FULL = -3`: There is no more room.", """
                24 x lane(0, 1, 1, 0)
                lane(0, 1, 1, 0) -> -3
                12 x alley(0, 1, 0)
                alley(0, 1, 0) -> -3
                60 x type('1')
                type('1') -> -3
                """);
        s.term(1, "`NONE = -5`: There is no such thing; not an error.", """
                undo() -> -5
                restore() -> -5
                weakest() -> -5
                within(0, 0, 0) -> -5
                """);
    }

    private static void orderOfErrors(Sentences s) {
        s.term(2, "Where several errors can apply, the order of the @return line is the order of the checks.", """
                24 x lane(0, 1, 1, 0)
                lane(14, 14, 0, 0) -> UNKNOWN
                lane(0, 0, 1, 4) -> UNKNOWN
                lane(0, 0, 1, 0) -> BAD_VALUE
                lane(0, 1, 21, 0) -> BAD_VALUE
                lane(0, 1, 20, 0) -> FULL
                12 x alley(0, 1, 0)
                alley(14, 21, 0) -> UNKNOWN
                alley(0, -1, 4) -> UNKNOWN
                alley(0, -1, 3) -> BAD_VALUE
                alley(0, 0, 3) -> FULL
                rank(14, 10) -> UNKNOWN
                laneOf(24, 7) -> UNKNOWN
                alleyOf(12, 4) -> UNKNOWN
                crossingOf(14, 6) -> UNKNOWN
                total(14, 0, 4) -> UNKNOWN
                total(0, 12, 4) -> UNKNOWN
                walk(14, 0, 3) -> UNKNOWN
                walk(0, 12, 3) -> UNKNOWN
                ifClosed(24, 3) -> UNKNOWN
                bestGate(0, 3) -> UNKNOWN
                bestGate(4, -1) -> UNKNOWN
                write 0-1*1:0;0-0*1:
                tellAll() -> -114
                write 0-0*1:0
                tellAll() -> BAD_VALUE
                """);
        s.term(19, "NONE is no error; it is returned only if no error applies.", """
                lane(0, 1, 1, 0)
                alley(13, 0, 3)
                total(0, 0, 4) -> BAD_VALUE
                total(0, 0, 0) -> NONE
                walk(0, 0, 3) -> BAD_VALUE
                walk(0, 0, 0) -> NONE
                total(14, 0, 0) -> UNKNOWN
                shortest(14, 0) -> UNKNOWN
                shortest(0, 0) -> NONE
                within(3, 14, 0) -> UNKNOWN
                within(3, 13, 0) -> NONE
                bestGate(3, 3) -> BAD_VALUE
                bestGate(3, 0) -> NONE
                close(1, false) -> UNKNOWN
                close(0, false) -> NONE
                rank(14, 1) -> UNKNOWN
                rank(13, 1) -> NONE
                """);
    }
}
