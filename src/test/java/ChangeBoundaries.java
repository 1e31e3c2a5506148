/** The boundary cases of the promises 1 to 14: lanes, alleys, texts and history. */
final class ChangeBoundaries {
    private ChangeBoundaries() {
    }

    static void all(Sentences s) {
        newObject(s);
        lane(s);
        laneAnswers(s);
        takeLane(s);
        close(s);
        rank(s);
        alley(s);
        takeAlley(s);
        tellAll(s);
        tellAllRefused(s);
        type(s);
        clearText(s);
        fault(s);
        undo(s);
        keep(s);
        restore(s);
    }

    private static void newObject(Sentences s) {
        s.holds(1, "Creates crossings without lanes and alleys.", """
                count(0) -> 0
                count(2) -> 0
                laneOf(0, 0) -> UNKNOWN
                alleyOf(0, 0) -> UNKNOWN
                crossingOf(0, 1) -> {}
                crossingOf(13, 1) -> {}
                crossingOf(13, 3) -> 0
                lane(0, 1, 1, 0)
                alley(0, 1, 0)
                new
                count(0) -> 0
                count(2) -> 0
                """);
    }

    private static void lane(Sentences s) {
        s.holds(2, "`one`: 0 to 13", """
                lane(-1, 5, 1, 0) -> UNKNOWN
                lane(14, 5, 1, 0) -> UNKNOWN
                lane(MIN, 5, 1, 0) -> UNKNOWN
                lane(MAX, 5, 1, 0) -> UNKNOWN
                count(0) -> 0
                lane(0, 5, 1, 0) -> 0
                lane(13, 5, 1, 0) -> 1
                laneOf(0, 0) -> 0
                laneOf(1, 0) -> 13
                """);
        s.holds(2, "`other`: 0 to 13", """
                lane(5, -1, 1, 0) -> UNKNOWN
                lane(5, 14, 1, 0) -> UNKNOWN
                lane(5, MIN, 1, 0) -> UNKNOWN
                lane(5, MAX, 1, 0) -> UNKNOWN
                count(0) -> 0
                lane(5, 0, 1, 0) -> 0
                lane(5, 13, 1, 0) -> 1
                laneOf(0, 1) -> 0
                laneOf(1, 1) -> 13
                """);
        s.holds(2, "`length`: 1 to 20", """
                lane(0, 1, 0, 0) -> BAD_VALUE
                lane(0, 1, -1, 0) -> BAD_VALUE
                lane(0, 1, 21, 0) -> BAD_VALUE
                lane(0, 1, MIN, 0) -> BAD_VALUE
                lane(0, 1, MAX, 0) -> BAD_VALUE
                count(0) -> 0
                lane(0, 1, 1, 0) -> 0
                lane(0, 1, 20, 0) -> 1
                laneOf(0, 2) -> 1
                laneOf(1, 2) -> 20
                """);
        s.holds(2, "`district`: 0 to 3", """
                lane(0, 1, 1, -1) -> UNKNOWN
                lane(0, 1, 1, 4) -> UNKNOWN
                lane(0, 1, 1, MIN) -> UNKNOWN
                lane(0, 1, 1, MAX) -> UNKNOWN
                count(0) -> 0
                lane(0, 1, 1, 0) -> 0
                lane(0, 1, 1, 3) -> 1
                laneOf(0, 3) -> 0
                laneOf(1, 3) -> 3
                """);
    }

    private static void laneAnswers(Sentences s) {
        s.holds(2, "Returns its number", """
                lane(0, 1, 1, 0) -> 0
                22 x lane(0, 1, 1, 0)
                lane(0, 1, 1, 0) -> 23
                takeLane(5)
                lane(0, 1, 1, 0) -> 23
                """);
        s.holds(2, "UNKNOWN (one, other or district)", """
                lane(14, 0, 1, 0) -> UNKNOWN
                lane(0, 14, 1, 0) -> UNKNOWN
                lane(0, 1, 1, 4) -> UNKNOWN
                lane(14, 14, 1, 0) -> UNKNOWN
                lane(0, 14, 0, 0) -> UNKNOWN
                lane(1, 1, 21, -1) -> UNKNOWN
                """);
        s.holds(2, "BAD_VALUE (length, or both ends are the same)", """
                lane(0, 0, 1, 0) -> BAD_VALUE
                lane(13, 13, 1, 3) -> BAD_VALUE
                lane(0, 1, 0, 0) -> BAD_VALUE
                lane(0, 1, 21, 0) -> BAD_VALUE
                lane(0, 0, 0, 0) -> BAD_VALUE
                """);
        s.holds(2, "FULL if there are 24", """
                23 x lane(0, 1, 1, 0)
                lane(0, 1, 1, 0) -> 23
                lane(0, 1, 1, 0) -> FULL
                count(0) -> 24
                close(0, true)
                lane(0, 1, 1, 0) -> FULL
                undo() -> 3
                undo() -> 2
                lane(0, 1, 1, 0) -> 23
                lane(0, 1, 1, 0) -> FULL
                """);
    }

    private static void takeLane(Sentences s) {
        s.holds(3, "`lane`: a lane", """
                takeLane(0) -> UNKNOWN
                lane(0, 1, 1, 0)
                lane(2, 3, 1, 0)
                takeLane(2) -> UNKNOWN
                takeLane(-1) -> UNKNOWN
                takeLane(1) -> 1
                takeLane(1) -> UNKNOWN
                laneOf(0, 0) -> 0
                """);
        s.holds(3, "Returns how many are left", """
                24 x lane(0, 1, 1, 0)
                takeLane(23) -> 23
                takeLane(0) -> 22
                21 x takeLane(0)
                takeLane(0) -> 0
                count(0) -> 0
                """);
        s.holds(3, "UNKNOWN", """
                takeLane(0) -> UNKNOWN
                24 x lane(0, 1, 1, 0)
                takeLane(24) -> UNKNOWN
                takeLane(-1) -> UNKNOWN
                takeLane(MIN) -> UNKNOWN
                takeLane(MAX) -> UNKNOWN
                count(0) -> 24
                """);
    }

    private static void close(Sentences s) {
        s.holds(4, "`lane`: a lane", """
                lane(0, 1, 1, 0)
                lane(0, 1, 1, 0)
                close(2, true) -> UNKNOWN
                close(-1, true) -> UNKNOWN
                close(0, true) -> 1
                close(1, true) -> 0
                """);
        s.holds(4, "`closed`: whether it is closed", """
                lane(0, 1, 1, 0)
                close(0, true) -> 0
                laneOf(0, 4) -> 1
                close(0, false) -> 1
                laneOf(0, 4) -> 0
                """);
        s.holds(4, "Returns how many lanes are told then", """
                24 x lane(0, 1, 1, 0)
                close(0, true) -> 23
                close(23, true) -> 22
                close(0, false) -> 23
                close(23, false) -> 24
                rank(0, 0)
                rank(1, 0)
                close(5, true) -> 0
                close(5, false) -> 0
                """);
        s.holds(4, "UNKNOWN", """
                close(0, true) -> UNKNOWN
                close(0, false) -> UNKNOWN
                lane(0, 1, 1, 0)
                close(1, true) -> UNKNOWN
                close(1, false) -> UNKNOWN
                close(-1, false) -> UNKNOWN
                close(24, false) -> UNKNOWN
                close(MIN, true) -> UNKNOWN
                close(MAX, true) -> UNKNOWN
                """);
        s.holds(4, "NONE if it is so already", """
                lane(0, 1, 1, 0)
                close(0, false) -> NONE
                count(8) -> 1
                close(0, true) -> 0
                close(0, true) -> NONE
                count(8) -> 2
                laneOf(0, 4) -> 1
                """);
    }

    private static void rank(Sentences s) {
        s.holds(5, "`crossing`: 0 to 13", """
                rank(-1, 0) -> UNKNOWN
                rank(14, 0) -> UNKNOWN
                rank(0, 0) -> 1
                rank(13, 0) -> 1
                """);
        s.holds(5, "`rank`: 0 to 9", """
                rank(0, -1) -> BAD_VALUE
                rank(0, 10) -> BAD_VALUE
                crossingOf(0, 0) -> 1
                rank(0, 0) -> 1
                rank(0, 9) -> 0
                crossingOf(0, 0) -> 9
                """);
        s.holds(5, "Returns the previous one", """
                rank(0, 0) -> 1
                rank(0, 9) -> 0
                rank(0, 8) -> 9
                undo() -> 2
                rank(0, 7) -> 9
                """);
        s.holds(5, "UNKNOWN", """
                rank(MIN, 1) -> UNKNOWN
                rank(MAX, 1) -> UNKNOWN
                rank(-1, 1) -> UNKNOWN
                rank(14, -1) -> UNKNOWN
                """);
        s.holds(5, "BAD_VALUE", """
                rank(0, MIN) -> BAD_VALUE
                rank(0, MAX) -> BAD_VALUE
                rank(13, -1) -> BAD_VALUE
                rank(13, 10) -> BAD_VALUE
                crossingOf(13, 0) -> 1
                """);
        s.holds(5, "NONE if it is so already", """
                rank(0, 1) -> NONE
                rank(13, 0)
                rank(13, 0) -> NONE
                rank(13, 9)
                rank(13, 9) -> NONE
                count(8) -> 2
                """);
    }

    private static void alley(Sentences s) {
        s.holds(6, "`crossing`: 0 to 13", """
                alley(-1, 1, 0) -> UNKNOWN
                alley(14, 1, 0) -> UNKNOWN
                alley(0, 1, 0) -> 0
                alley(13, 1, 0) -> 1
                alleyOf(1, 0) -> 13
                """);
        s.holds(6, "`length`: 0 to 20", """
                alley(0, -1, 0) -> BAD_VALUE
                alley(0, 21, 0) -> BAD_VALUE
                alley(0, 0, 0) -> 0
                alley(0, 20, 0) -> 1
                alleyOf(0, 1) -> 0
                alleyOf(1, 1) -> 20
                """);
        s.holds(6, "`district`: 0 to 3", """
                alley(0, 1, -1) -> UNKNOWN
                alley(0, 1, 4) -> UNKNOWN
                alley(0, 1, 0) -> 0
                alley(0, 1, 3) -> 1
                alleyOf(1, 2) -> 3
                """);
        s.holds(6, "Returns its number", """
                alley(0, 1, 0) -> 0
                10 x alley(0, 1, 0)
                alley(0, 1, 0) -> 11
                takeAlley(5)
                alley(0, 1, 0) -> 11
                """);
        s.holds(6, "UNKNOWN (crossing or district)", """
                alley(MIN, 1, 0) -> UNKNOWN
                alley(MAX, 1, 0) -> UNKNOWN
                alley(0, 1, MIN) -> UNKNOWN
                alley(0, 1, MAX) -> UNKNOWN
                alley(14, -1, 0) -> UNKNOWN
                alley(0, 21, 4) -> UNKNOWN
                count(2) -> 0
                """);
        s.holds(6, "BAD_VALUE", """
                alley(0, MIN, 0) -> BAD_VALUE
                alley(0, MAX, 0) -> BAD_VALUE
                12 x alley(0, 1, 0)
                alley(0, 21, 0) -> BAD_VALUE
                count(2) -> 12
                """);
        s.holds(6, "FULL if there are 12", """
                11 x alley(0, 1, 0)
                alley(0, 1, 0) -> 11
                alley(0, 1, 0) -> FULL
                count(2) -> 12
                undo() -> 3
                alley(0, 1, 0) -> 11
                alley(0, 1, 0) -> FULL
                """);
    }

    private static void takeAlley(Sentences s) {
        s.holds(7, "`alley`: an alley", """
                takeAlley(0) -> UNKNOWN
                alley(0, 1, 0)
                alley(1, 1, 0)
                takeAlley(2) -> UNKNOWN
                takeAlley(-1) -> UNKNOWN
                takeAlley(1) -> 1
                takeAlley(1) -> UNKNOWN
                alleyOf(0, 0) -> 0
                """);
        s.holds(7, "Returns how many are left", """
                12 x alley(0, 1, 0)
                takeAlley(11) -> 11
                9 x takeAlley(0)
                takeAlley(0) -> 1
                takeAlley(0) -> 0
                count(2) -> 0
                """);
        s.holds(7, "UNKNOWN", """
                takeAlley(0) -> UNKNOWN
                12 x alley(0, 1, 0)
                takeAlley(12) -> UNKNOWN
                takeAlley(-1) -> UNKNOWN
                takeAlley(MIN) -> UNKNOWN
                takeAlley(MAX) -> UNKNOWN
                count(2) -> 12
                """);
    }

    private static void tellAll(Sentences s) {
        s.holds(8, "Does what the text tells, which stays, part by part", """
                write a1+0:1;0-1*20:1
                tellAll() -> 2
                count(9) -> 15
                fault() -> NONE
                total(0, 0, 0) -> 20
                tellAll() -> 2
                count(9) -> 15
                count(0) -> 2
                count(2) -> 2
                """);
        s.holds(8, "all of it or nothing", """
                23 x lane(0, 1, 1, 0)
                write a0+0:0;0-1*1:0;0-1*1:0
                tellAll() -> FULL
                count(2) -> 0
                count(0) -> 23
                write a0+0:0;0-1*1:0;1-1*1:0
                tellAll() -> BAD_VALUE
                count(2) -> 0
                count(0) -> 23
                write a0+0:0;0-1*1:0;
                tellAll() -> -115
                count(2) -> 0
                count(0) -> 23
                write a0+0:0;0-1*1:0
                tellAll() -> 2
                count(2) -> 1
                count(0) -> 24
                """);
        s.holds(8, "This is one act.", """
                lane(0, 1, 1, 0)
                write a0+0:0;0-1*1:0;a0+0:0
                tellAll() -> 3
                count(8) -> 2
                undo() -> 1
                count(2) -> 0
                count(0) -> 1
                """);
        s.holds(8, "Returns how many parts the text has", """
                write 0-1*1:0
                tellAll() -> 1
                write a0+0:0;a0+0:0;a0+0:0;a0+0:0;a0+0:0;a0+0:0;a0+0:0;a0+0:0
                tellAll() -> 8
                """);
    }

    private static void tellAllRefused(Sentences s) {
        s.holds(8, "-100 minus the fault of the text if it has one (which is an error)", """
                tellAll() -> -100
                write x
                tellAll() -> -100
                write 0-1*1:0;
                tellAll() -> -108
                write 0-0*1:0;0
                tellAll() -> -109
                write a13+20:3;a13+20:3;a13+20:3;a13+20:3;a13+20:3;a13+20:3;a13+1:
                tellAll() -> -160
                count(8) -> 0
                count(2) -> 0
                """);
        s.holds(8, "BAD_VALUE if both ends of a lane are the same", """
                write 0-0*1:0
                tellAll() -> BAD_VALUE
                write 13-13*20:3
                tellAll() -> BAD_VALUE
                write 0-1*1:0;a0+0:0;5-5*1:0
                tellAll() -> BAD_VALUE
                count(0) -> 0
                count(8) -> 0
                """);
        s.holds(8, "FULL if there would be too many", """
                24 x lane(0, 1, 1, 0)
                write 0-1*1:0
                tellAll() -> FULL
                11 x alley(0, 0, 0)
                write a0+0:0;a0+0:0
                tellAll() -> FULL
                count(2) -> 11
                write a0+0:0
                tellAll() -> 1
                tellAll() -> FULL
                count(2) -> 12
                takeLane(0)
                write 0-1*1:0
                tellAll() -> 1
                tellAll() -> FULL
                """);
        s.holds(8, "(the first one of these, as the parts come)", """
                24 x lane(0, 1, 1, 0)
                write 0-1*1:0;5-5*1:0
                tellAll() -> FULL
                write 5-5*1:0;0-1*1:0
                tellAll() -> BAD_VALUE
                12 x alley(0, 0, 0)
                write a0+0:0;5-5*1:0
                tellAll() -> FULL
                write 5-5*1:0;a0+0:0
                tellAll() -> BAD_VALUE
                """);
    }

    private static void type(Sentences s) {
        s.holds(9, "`character`: any character", """
                type(0) -> 1
                type(' ') -> 2
                type(127) -> 3
                type(255) -> 4
                type(256) -> 5
                type(65535) -> 6
                type(10) -> 7
                count(9) -> 7
                """);
        s.holds(9, "Returns the length then", """
                type('1') -> 1
                type('1') -> 2
                57 x type('1')
                type('1') -> 60
                """);
        s.holds(9, "FULL if it has 60 characters", """
                59 x type('1')
                type('1') -> 60
                type('1') -> FULL
                count(9) -> 60
                clearText() -> 60
                type('1') -> 1
                new
                write a13+20:3;a13+20:3;a13+20:3;a13+20:3;a13+20:3;a13+20:3;a1+1:0
                fault() -> NONE
                type(';') -> FULL
                fault() -> NONE
                """);
    }

    private static void clearText(Sentences s) {
        s.holds(10, "Returns the length that it had", """
                clearText() -> 0
                type('a')
                clearText() -> 1
                clearText() -> 0
                60 x type('1')
                clearText() -> 60
                count(9) -> 0
                fault() -> 0
                """);
    }

    private static void fault(Sentences s) {
        s.holds(11, "Returns the index", """
                fault() -> 0
                type('x')
                fault() -> 0
                write 0-1*1:0;0-1*1:x
                fault() -> 14
                new
                write a13+20:3;a13+20:3;a13+20:3;a13+20:3;a13+20:3;a13+20:3;a1+1:4
                fault() -> 59
                write a13+20:3;a13+20:3;a13+20:3;a13+20:3;a13+20:3;a13+20:3;a13+1:
                fault() -> 60
                """);
        s.holds(11, "NONE if it has none", """
                write a0+0:0
                fault() -> NONE
                fault() -> NONE
                write 0-0*1:0
                fault() -> NONE
                write a13+20:3;a13+20:3;a13+20:3;a13+20:3;a13+20:3;a13+20:3;a1+1:0
                count(9) -> 60
                fault() -> NONE
                """);
    }

    private static void undo(Sentences s) {
        s.holds(12, "Returns the number of states that are left", """
                rank(0, 2)
                undo() -> 0
                rank(0, 2)
                rank(0, 3)
                rank(0, 4)
                rank(0, 5)
                rank(0, 6)
                undo() -> 3
                crossingOf(0, 0) -> 5
                undo() -> 2
                undo() -> 1
                undo() -> 0
                crossingOf(0, 0) -> 2
                """);
        s.holds(12, "NONE if the history is empty", """
                undo() -> NONE
                rank(0, 2)
                undo() -> 0
                undo() -> NONE
                crossingOf(0, 0) -> 1
                rank(0, 10) -> BAD_VALUE
                undo() -> NONE
                """);
    }

    private static void keep(Sentences s) {
        s.holds(13, "Takes a snapshot of the state, in place of the one that was.", """
                rank(0, 2)
                keep() -> 0
                rank(0, 3)
                keep() -> 0
                rank(0, 4)
                restore() -> 0
                crossingOf(0, 0) -> 3
                count(8) -> 4
                """);
        s.holds(13, "Returns how many lanes there are", """
                keep() -> 0
                23 x lane(0, 1, 1, 0)
                close(0, true)
                lane(0, 1, 1, 0)
                alley(0, 0, 0)
                keep() -> 24
                """);
    }

    private static void restore(Sentences s) {
        s.holds(14, "Restores the state of the snapshot, which stays. This is an act.", """
                alley(5, 6, 2)
                keep()
                count(8) -> 1
                takeAlley(0)
                restore() -> 0
                count(8) -> 3
                alleyOf(0, 1) -> 6
                takeAlley(0)
                restore() -> 0
                alleyOf(0, 1) -> 6
                restore() -> 0
                count(8) -> 4
                undo() -> 3
                alleyOf(0, 1) -> 6
                undo() -> 2
                count(2) -> 0
                """);
        s.holds(14, "Returns how many lanes there are then", """
                keep() -> 0
                24 x lane(0, 1, 1, 0)
                restore() -> 0
                undo() -> 3
                keep() -> 24
                takeLane(0) -> 23
                restore() -> 24
                """);
        s.holds(14, "NONE if there is no snapshot", """
                restore() -> NONE
                lane(0, 1, 1, 0)
                restore() -> NONE
                count(0) -> 1
                count(8) -> 1
                undo()
                keep() -> 0
                restore() -> 0
                """);
    }
}
