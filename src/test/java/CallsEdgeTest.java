/** The promises, one by one: what each call takes at the least and at the most, and each refusal, in order. */
public final class CallsEdgeTest {
    private static final String TWO = """
        person(0, 5, 3) = 0
        person(0, 1, 4) = 1
        """;
    private static final String SIX = TWO + """
        person(0, 2, 0) = 2
        person(0, 3, 0) = 3
        person(0, 4, 0) = 4
        person(0, 0, 0) = 5
        """;
    /** 0 - 1 - .. - 7, each a mile apart. */
    private static final String LINE = """
        road(0, 1, 1) = 0
        road(1, 2, 1) = 0
        road(2, 3, 1) = 0
        road(3, 4, 1) = 0
        road(4, 5, 1) = 0
        road(5, 6, 1) = 0
        road(6, 7, 1) = 0
        """;
    private static final String WHOLE_TEXT = "pulls 1;moods 1;enough 0;";

    public static void main(String[] args) {
        aNewObject();
        set();
        road();
        person();
        told();
        asks();
        feed();
        text();
        textBehindFaults();
        textIsFull();
        force();
        ride();
        goes();
        far();
        best();
        from();
        together();
        shut();
        tells();
        film();
        drawn();
        chance();
        image();
        count();
        sheet();
        cell();
        copy();
        copyOfMany();
        people();
        peopleOutside();
        taken();
        Check.end();
    }

    private static void aNewObject() {
        Script.run("1: Nobody, no ROADS", """
            count({0 1 2 4 5}) = 0
            count(3) = 1
            told(0, 0) = 9
            told({0 5}, {1 2 3 4 5}) = BAD
            taken({0 5}, 0) = NOTHING
            asks(0, 1, 0, 0, 0) = BAD
            ride(0, 1, 0, 0) = BAD
            goes(0, 1, 0) = BAD
            best(0, 0, 0) = BAD
            from(0, 1) = BAD
            together(0, {0 1}) = 0
            shut(0, 1, 0, 0) = BAD
            film(0, 1, 0, 0) = BAD
            drawn(0, 1, 0) = BAD
            chance(0, 1, 1, 0) = NO
            far({0 1 2 3 4 5 6}, 7) = NONE
            far(7, {0 1 2 3 4 5 6}) = NONE
            far(7, 7) = 0
            back() = STATE
            cell({0 1 2 3}, 0, 0) = NOTHING
            text() = -100
            """);
    }

    private static void set() {
        Script.run("2: HOUR (what 0; of does not matter) becomes v: what it was", """
            set(0, MIN, 0) = 9
            set(0, -1, 23) = 0
            set(0, 6, 23) = 23
            set(0, MAX, 12) = 23
            told(MAX, 0) = 12
            """);
        Script.run("2: NUMBER (1) becomes v: what it was", SIX + """
            set(1, 0, 9) = 5
            set(1, 0, 0) = 9
            set(1, 0, 0) = 0
            set(1, 5, 9) = 0
            told(0, 1) = 0
            told(5, 1) = 9
            told(1, 1) = 1
            told(0, 2) = 3
            """);
        Script.run("2: GOAL (2) becomes v: what it was", SIX + """
            set(2, 0, 7) = 3
            set(2, 0, 0) = 7
            set(2, 0, 0) = 0
            set(2, 5, 7) = 0
            told(0, 2) = 0
            told(5, 2) = 7
            told(1, 2) = 4
            told(0, 1) = 5
            """);
        Script.run("2: BAD", TWO + """
            set({-1 3 MIN MAX}, 0, 0) = BAD
            set({1 2}, {-1 2 MIN MAX}, 0) = BAD
            set(0, 0, {-1 24 MIN MAX}) = BAD
            set(1, 0, {-1 10 MIN MAX}) = BAD
            set(2, 0, {-1 8 MIN MAX}) = BAD
            """);
        Script.run("2: BAD: nobody", "set({1 2}, 0, 0) = BAD");
    }

    private static void road() {
        Script.run("3: Two PLACES are so far apart by a ROAD (0 .. 99): what it was", """
            road(0, 7, 99) = 0
            road(7, 0, 1) = 99
            road(0, 7, 0) = 1
            road(0, 7, 0) = 0
            road(6, 7, 98) = 0
            road(6, 7, 98) = 98
            far(6, 7) = 98
            """);
        Script.run("3: BAD: no such, one and the same, miles", """
            road(0, 1, 50) = 0
            road({-1 8 MIN MAX}, 0, 1) = BAD
            road(0, {-1 8 MIN MAX}, 1) = BAD
            road(0, 0, {0 1}) = BAD
            road(7, 7, 1) = BAD
            road(0, 1, {-1 100 MIN MAX}) = BAD
            road(0, 1, 0) = 50
            """);
    }

    private static void person() {
        Script.run("4: One of PEOPLE: the number", """
            person(0, 0, 0) = 0
            person(5, 9, 7) = 1
            told(0, {1 2 3 4}) = 0
            told(1, 3) = 5
            told(1, 1) = 9
            told(1, 2) = 7
            """);
        Script.run("4: BAD", """
            person({-1 6 MIN MAX}, 0, 0) = BAD
            person(0, {-1 10 MIN MAX}, 0) = BAD
            person(0, 0, {-1 8 MIN MAX}) = BAD
            person(0, 0, 0) = 0
            """);
        Script.run("4: BAD; FULL", SIX + """
            person(0, 0, 0) = FULL
            person(5, 9, 7) = FULL
            person(6, 0, 0) = BAD
            person(0, 10, 0) = BAD
            person(0, 0, -1) = BAD
            """);
    }

    private static void told() {
        Script.run("5: What 0 .. 2 as of set(), 3 KIND, 4 RIDDEN, 5 RULES (bits)", LINE + """
            person(5, 9, 7) = 0
            person(2, 9, 6) = 1
            told({-1 2 MIN MAX}, 0) = 9
            told(0, 1) = 9
            told(0, 2) = 7
            told(0, 3) = 5
            told(0, 4) = 0
            told(0, 5) = 0
            told(1, 5) = 1
            goes(0, 1, 0) = 6
            told({0 1}, 4) = 6
            """);
        Script.run("5: BAD", TWO + """
            told({-1 2 MIN MAX}, {1 2 3 4 5}) = BAD
            told(0, {-1 6 MIN MAX}) = BAD
            """);
    }

    private static void asks() {
        Script.run("6: at a PLACE after s STEPS (0 .. 40): PULL, MOOD, ENOUGH, who STEERS", TWO + """
            asks(0, 1, {0 7}, 0, 0) = 15
            asks(0, 1, {0 7}, 0, 1) = 11
            asks(0, 1, {0 7}, 0, 2) = 5
            asks(0, 1, {0 7}, 0, 3) = 1
            asks(0, 1, {0 7}, 0, {4 5}) = 0
            asks(0, 1, {0 7}, 40, {0 1}) = 0
            asks(0, 1, {0 7}, 40, 4) = 3
            asks(0, 1, {0 7}, 40, 5) = 0
            asks(1, 0, {0 7}, 40, 5) = 0
            """);
        Script.run("6: who has ENOUGH (4; bits: 1 in FRONT, 2 behind)", """
            person(5, 0, 0) = 0
            person(5, 9, 0) = 1
            asks(0, 1, 0, 0, 4) = 1
            asks(1, 0, 0, 0, 4) = 2
            asks(1, 0, 0, 9, 4) = 3
            set(1, 0, 1) = 0
            asks(0, 1, 0, 0, 4) = 0
            """);
        Script.run("6: BAD: no such two, one and the same, at, s, what", TWO + """
            asks({-1 2 MIN MAX}, 1, 0, 0, 0) = BAD
            asks(0, {-1 2 MIN MAX}, 0, 0, 0) = BAD
            asks(0, 0, 0, 0, 0) = BAD
            asks(1, 1, 0, 0, 5) = BAD
            asks(0, 1, {-1 8 MIN MAX}, 0, 0) = BAD
            asks(0, 1, 0, {-1 41 MIN MAX}, 0) = BAD
            asks(0, 1, 0, 0, {-1 6 MIN MAX}) = BAD
            """);
    }

    private static void feed() {
        Script.run("7: A byte (0 .. 255) comes behind THE TAPE: how many it has", """
            feed(0) = 1
            feed(255) = 2
            feed({-1 256 MIN MAX}) = BAD
            count(4) = 2
            text() = -100
            feed(112) = 1
            """);
        Script.run("7: THE TAPE (160 bytes at most): BAD; FULL", "tape \"" + " ".repeat(159) + "\"" + """

            feed(-1) = BAD
            feed(40) = 160
            feed({0 32 255}) = FULL
            feed({-1 256}) = BAD
            count(4) = 160
            text() = -259
            count(4) = 0
            feed(40) = 1
            """);
    }

    private static void text() {
        Script.run("8: THE TAPE is a TEXT: its number; THE TAPE is empty then", """
            read "pulls 1;moods 1;enough 0;" = 1
            count(4) = 0
            count(3) = 2
            count(5) = 0
            read "pulls 1;moods 1;enough 0;" = 2
            count(3) = 3
            """);
        Script.run("8: THE TAPE is empty then (by a FAULT, too): -100 less the place of its FAULT", """
            text() = -100
            read "?" = -100
            count(4) = 0
            read " ?" = -101
            count(4) = 0
            count(3) = 1
            read "pulls 1;moods 1;enough 0;" = 1
            """);
        String longest = "pulls 1;moods 1;enough 0" + "+1".repeat(67);
        Script.run("8: a TEXT of 160 bytes", "read \"" + longest + " ;\" = 1");
        Script.run("8: a FAULT at the last of 160 bytes", "read \"" + longest + " +\" = -260");
        Script.run("8: a FAULT at the last of 160 bytes", "read \"" + longest + " ?\" = -259");
        Script.run("8: a FAULT of a TEXT leaves the others as they are", TWO + """
            read "pulls 3;moods 2;enough 0;" = 1
            force(1) = 0
            read "pulls 5;moods 6;enough 7" = -124
            asks(0, 1, 0, 0, {0 1}) = 3
            asks(0, 1, 0, 0, {2 3}) = 2
            asks(0, 1, 0, 0, 4) = 0
            force(2) = BAD
            read "pulls 4;moods 1;enough 0;" = 2
            asks(0, 1, 0, 0, {0 1}) = 3
            force(2) = 1
            asks(0, 1, 0, 0, {0 1}) = 4
            """);
    }

    private static void textBehindFaults() {
        Script.run("8: nothing of a FAULT is in the TEXT that comes then", TWO + """
            read "pulls 1+;" = -108
            read "pulls 1 and 2*-(3;" = -117
            read "pulls 1;moods 9;enough 1 or;" = -127
            read "pulls 5;moods 4;enough 0;" = 1
            force(1) = 0
            asks(0, 1, 0, 0, {0 1}) = 5
            asks(0, 1, 0, 0, {2 3}) = 4
            asks(0, 1, 0, 0, 4) = 0
            """);
        Script.run("8: nothing of a long FAULT is in the long TEXT that comes then", TWO
            + "read \"pulls 1" + "+1".repeat(76) + "\" = -259\n"
            + "read \"pulls 1" + "+1".repeat(63) + ";moods 40+2;enough 0;\" = 1\n" + """
            force(1) = 0
            asks(0, 1, 0, 0, {0 1}) = 64
            asks(0, 1, 0, 0, {2 3}) = 42
            asks(0, 1, 0, 0, 4) = 0
            """);
    }

    private static void textIsFull() {
        String five = "read \"" + WHOLE_TEXT + "\" = ";
        String full = five + "1\n" + five + "2\n" + five + "3\n" + five + "4\n" + five + "5\n";
        Script.run("8: FULL (ahead of all): no TEXT more has room (THE TAPE stays)", full + """
            count(3) = 6
            text() = FULL
            tape "?"
            text() = FULL
            count(4) = 1
            feed(63) = 2
            text() = FULL
            image() = 0
            back() = 0
            text() = FULL
            count(4) = 2
            """);
        Script.run("8: TEXTS are six with TEXT 0, and a FAULT takes no room", """
            read "pulls 1;moods 1;enough 0" = -124
            read "pulls 1;moods 1;enough 0" = -124
            """ + full.replace("5\n", "5\ncount(3) = 6\n"));
    }

    private static void force() {
        Script.run("9: A TEXT is THE RULE: which was", """
            force(0) = 0
            read "pulls 1;moods 1;enough 0;" = 1
            force(1) = 0
            force(1) = 1
            count(5) = 1
            force(0) = 1
            count(5) = 0
            """);
        Script.run("9: BAD", """
            force({-1 1 5 6 MIN MAX}) = BAD
            read "pulls 1;moods 1;enough 0;" = 1
            force({-1 2 MIN MAX}) = BAD
            """);
    }

    private static void ride() {
        Script.run("10: A RIDE: (what 0 .. 5); where they are behind what less 10 STEPS (10 .. 50; behind its END there)",
            LINE + TWO + """
            ride(0, 1, 0, {0 1 2}) = 3
            ride(0, 1, 0, 3) = 0
            ride(0, 1, 0, 4) = 15
            ride(0, 1, 0, 5) = 3
            ride(0, 1, 0, 10) = 0
            ride(0, 1, 0, 11) = 1
            ride(0, 1, 0, 12) = 2
            ride(0, 1, 0, {13 14 49 50}) = 3
            ride(0, 1, 7, 10) = 7
            ride(1, 0, 7, 50) = 3
            ride(1, 0, 7, 5) = 0
            count(2) = 0
            """);
        Script.run("10: BAD: no such two, one and the same, PLACE, what", TWO + """
            ride({-1 2 MIN MAX}, 1, 0, 0) = BAD
            ride(0, {-1 2 MIN MAX}, 0, 0) = BAD
            ride(0, 0, 0, 0) = BAD
            ride(1, 1, 0, 10) = BAD
            ride(0, 1, {-1 8 MIN MAX}, 0) = BAD
            ride(0, 1, 0, {-1 6 7 8 9 51 MIN MAX}) = BAD
            """);
    }

    private static void goes() {
        Script.run("11: It, truly: LONG", LINE + TWO + """
            goes(0, 1, 0) = 3
            goes(1, 0, 7) = 4
            goes(0, 1, 3) = 0
            told({0 1}, 4) = 7
            count(2) = 14
            """);
        Script.run("11: BAD", LINE + TWO + """
            goes({-1 2 MIN MAX}, 1, 0) = BAD
            goes(0, {-1 2 MIN MAX}, 0) = BAD
            goes({0 1}, 1, {-1 8 MIN MAX}) = BAD
            goes(0, 0, 0) = BAD
            goes(1, 1, 0) = BAD
            """);
    }

    private static void far() {
        Script.run("12: FAR. BAD; NONE", """
            far({-1 8 MIN MAX}, 0) = BAD
            far(0, {-1 8 MIN MAX}) = BAD
            far(8, 8) = BAD
            far({0 7}, 3) = NONE
            far(3, {0 7}) = NONE
            far(0, 0) = 0
            far(7, 7) = 0
            """);
    }

    private static void best() {
        Script.run("13: BEST BEHIND (what 0; NONE), LONG then (1; NONE)", LINE + SIX + """
            best(0, 0, 0) = 1
            best(0, 0, 1) = 3
            best(1, 0, 0) = 5
            best(1, 0, 1) = 4
            best(5, 7, 0) = 2
            best(5, 7, 1) = 7
            set(2, 2, 1) = 0
            set(2, 3, 1) = 0
            set(2, 4, 1) = 0
            best(5, 7, {0 1}) = NONE
            set(1, 5, 6) = 0
            best(5, 7, 0) = 0
            best(5, 7, 1) = 7
            """);
        Script.run("13: BAD", TWO + """
            best({-1 2 MIN MAX}, 0, {0 1}) = BAD
            best(0, {-1 8 MIN MAX}, {0 1}) = BAD
            best(0, 0, {-1 2 MIN MAX}) = BAD
            """);
    }

    private static void from() {
        Script.run("14: FROM. BAD: no such two, one and the same", LINE + TWO + """
            from(0, 1) = 255
            from(1, 0) = 0
            from({-1 2 MIN MAX}, 1) = BAD
            from(0, {-1 2 MIN MAX}) = BAD
            from(0, 0) = BAD
            from(1, 1) = BAD
            """);
    }

    private static void together() {
        Script.run("15: TOGETHER (what 0; 0: fewer than two), LONG of all then (1)", """
            together(0, {0 1}) = 0
            person(0, 0, 7) = 0
            together(0, {0 1}) = 0
            road(0, 7, 4) = 0
            person(0, 0, 7) = 1
            together(0, 0) = 12
            together(0, 1) = 4
            together(7, 0) = 12
            together(7, 1) = 0
            """);
        Script.run("15: BAD", TWO + """
            together({-1 8 MIN MAX}, {0 1}) = BAD
            together(0, {-1 2 MIN MAX}) = BAD
            """);
        Script.run("15: BAD, of nobody too", """
            together({-1 8 MIN MAX}, 0) = BAD
            together(0, {-1 2 MIN MAX}) = BAD
            """);
    }

    private static void shut() {
        Script.run("16: SHUT (what 0; NONE), LONG then (1; as so, if none)", LINE + TWO + """
            shut(0, 1, 0, 0) = NONE
            shut(0, 1, 0, 1) = 3
            road(0, 3, 4) = 0
            shut(0, 1, 0, 0) = 1
            shut(0, 1, 0, 1) = 4
            count(1) = 8
            far(0, 3) = 3
            """);
        Script.run("16: BAD: no such two, one and the same, PLACE, what", LINE + TWO + """
            shut({-1 2 MIN MAX}, 1, 0, 0) = BAD
            shut(0, {-1 2 MIN MAX}, 0, 0) = BAD
            shut(0, 0, 0, 0) = BAD
            shut(1, 1, 0, 1) = BAD
            shut(0, 1, {-1 8 MIN MAX}, 0) = BAD
            shut(0, 1, 0, {-1 2 MIN MAX}) = BAD
            """);
    }

    /** What no two of 0 and 1 are: below 0, none in front or behind, one and the same. */
    private static final String NO_TWO = "{-1 -10 2 9 20 12 0 11 21 22 91 100 101 110 MIN MAX}";

    private static void tells() {
        Script.run("17: BAD: SHEET, no such two, one and the same, PLACE, what; -11; BAD: it tells more than 20", TWO + """
            tells({-1 4 MIN MAX}, 1, 0, 0) = BAD
            tells({0 1 2 3}, 1, 0, {0 6}) = NOTHING
            tells(0, NO_TWO, 0, 0) = BAD
            tells(0, 1, {-1 8 MIN MAX}, 0) = BAD
            tells(0, 1, 0, {-1 7 MIN MAX}) = BAD
            sheet(0, 0, 20) = 1
            tells(0, 1, 0, 0) = NONE
            sheet(0, 0, 21) = 1
            tells(0, {1 10}, 0, {0 1 6}) = BAD
            sheet(0, -1, 0) = 1
            tells(0, 1, 0, 0) = NOTHING
            """.replace("NO_TWO", NO_TWO));
        Script.run("17: two: 10 times who is in FRONT, and who is behind", LINE + SIX + """
            sheet(2, 1, 1) = 1
            cell(2, 0, 7) = 1
            tells(2, {1 5 50 45 54}, 7, 0) = NONE
            tells(2, 1, 7, 1) = 62
            tells(2, 50, 7, 1) = 31
            tells(2, 23, 7, 1) = 59
            tells(2, {6 60 55 56 65 33}, 7, 1) = BAD
            """);
    }

    private static void film() {
        Script.run("18: A SHEET truly becomes PLACES behind 0, 1, .. STEPS of a RIDE, n (0 .. 20) numbers (bytes): n",
            LINE + TWO + """
            film(0, 1, 0, 0) = 0
            cell(0, 0, 0) = OUTSIDE
            told({0 1}, 4) = 3
            film(3, 1, 0, 20) = 20
            cell(3, 20, 0) = OUTSIDE
            tells(3, 1, 0, 0) = NONE
            told({0 1}, 4) = 6
            film(3, 10, 7, 2) = 2
            cell(3, 2, 0) = OUTSIDE
            tells(3, 10, 7, 0) = NONE
            told({0 1}, 4) = 10
            sheet(1, 2, 40) = 1
            film(1, 1, 3, 1) = 1
            people(1, 0, 0, 0) = 0
            people(1, 2, 0, 0) = UNLIKE
            cell(1, 1, 0) = OUTSIDE
            told({0 1}, 4) = 10
            """);
        Script.run("18: truly: 99999 at most", """
            person(0, 0, 7) = 0
            person(0, 0, 0) = 1
            road(0, 1, 99) = 0
            road(1, 7, 99) = 0
            read "pulls behind*(miles=99)*2; moods 1; enough 0;" = 1
            force(1) = 0
            """ + "film(0, 1, 0, 1) = 1\n".repeat(25) + """
            told({0 1}, 4) = 99000
            film(0, 1, 0, 20) = 20
            told({0 1}, 4) = 99999
            """);
        Script.run("18: BAD: SHEET, no such two, one and the same, PLACE, n", LINE + TWO + """
            sheet(0, 1, 2) = 1
            cell(0, 1, 7) = 1
            film({-1 4 MIN MAX}, 1, 0, 1) = BAD
            film(0, NO_TWO, 0, 1) = BAD
            film(0, 1, {-1 8 MIN MAX}, 1) = BAD
            film(0, 1, 0, {-1 21 MIN MAX}) = BAD
            """.replace("NO_TWO", NO_TWO));
    }

    private static void drawn() {
        Script.run("19: DRAWN. BAD: no such two, one and the same, PLACE", LINE + TWO + """
            drawn({0 MIN MAX}, NO_TWO, 0) = BAD
            drawn(0, 1, {-1 8 MIN MAX}) = BAD
            drawn(0, {1 10}, 0) = 0
            drawn(0, {1 10}, 7) = 7
            """.replace("NO_TWO", NO_TWO));
    }

    private static void chance() {
        Script.run("20: NO: m, no such two, one and the same, part", TWO + """
            chance(0, {-1 0 21 MIN MAX}, 1, {0 1}) = NO
            chance(0, 1, NO_TWO, 0) = NO
            chance({MIN MAX}, 1, 1, {-1 2 MIN MAX}) = NO
            chance(0, 1, 1, {0 1}) = 1
            chance(0, 20, 1, 1) = 10
            """.replace("NO_TWO", NO_TWO));
    }

    private static void image() {
        Script.run("21: AN IMAGE is kept: how many of PEOPLE; 22: back; STATE: there is none", """
            back() = STATE
            image() = 0
            back() = 0
            person(0, 1, 2) = 0
            back() = 0
            count(0) = 0
            back() = 0
            """);
        Script.run("21: AN IMAGE of six, in place of an older one", SIX + """
            image() = 6
            set(1, 5, 9) = 0
            image() = 6
            set(1, 5, 8) = 9
            road(0, 1, 5) = 0
            back() = 6
            told(5, 1) = 9
            far(0, 1) = NONE
            person(0, 0, 0) = FULL
            """);
        Script.run("22: All that it keeps is as in THE IMAGE: not SHEETS, THE TAPE, TEXTS", """
            sheet(1, 1, 2) = 1
            image() = 0
            sheet(0, 0, 1) = 1
            sheet(1, -1, 0) = 1
            read "pulls 1;moods 1;enough 0;" = 1
            tape "pul"
            back() = 0
            cell(0, 0, 1) = 1
            cell(1, 0, 1) = NOTHING
            count(3) = 2
            count(4) = 3
            """);
    }

    private static void count() {
        Script.run("23: How many: 0 PEOPLE, 1 ROADS, 2 RIDDEN of all, 3 TEXTS, 4 bytes of THE TAPE, 5 THE RULE", LINE + SIX + """
            count(0) = 6
            count(1) = 7
            goes(0, 1, 0) = 3
            count(2) = 6
            goes(5, 4, 5) = 5
            count(2) = 16
            road(0, 1, 2) = 1
            count(1) = 7
            road(1, 0, 0) = 2
            count(1) = 6
            count({-1 6 MIN MAX}) = BAD
            """);
        StringBuilder all = new StringBuilder();
        for (int one = 0; one < 8; one++) {
            for (int other = one + 1; other < 8; other++) {
                all.append("road(").append(one).append(", ").append(other).append(", 99) = 0\n");
            }
        }
        Script.run("23: ROADS between all PLACES", all + "count(1) = 28\nroad(6, 7, 0) = 99\ncount(1) = 27\n");
    }

    private static void sheet() {
        Script.run("24: A SHEET becomes a row of n of a sort, all 0, or missing (sort -1: n does not matter): 1", """
            sheet({0 3}, {0 1 2}, {0 40}) = 1
            cell(0, 39, 1) = 1
            cell(0, 40, 1) = OUTSIDE
            sheet(0, -1, {-1 0 41 MIN MAX}) = 1
            cell(0, 0, 1) = NOTHING
            cell(3, 39, 1) = 1
            sheet(3, 2, 40) = 1
            copy(3, 39, 3, 0, 1) = 1
            """);
        Script.run("24: all 0, also where it was a row ahead", TWO + """
            sheet(0, 0, 2) = 1
            cell(0, {0 1}, 7) = 1
            sheet(0, 0, 1) = 1
            sheet(0, 0, 2) = 1
            tells(0, 1, 0, 0) = NONE
            """);
        Script.run("24: BAD: no such SHEET, sort; n above 40; -14", """
            sheet(1, 1, 3) = 1
            sheet({-1 4 MIN MAX}, {-1 0}, 1) = BAD
            sheet({-1 4}, 0, {-1 41}) = BAD
            sheet(1, {-2 3 MIN MAX}, {1 -1 41}) = BAD
            sheet(1, {0 2}, {41 MAX}) = BAD
            sheet(1, {0 2}, {-1 MIN}) = NEGATIVE
            sheet(2, 0, -1) = NEGATIVE
            """);
    }

    private static void cell() {
        Script.run("25: Item i of a SHEET becomes v (of bytes, shorts its lowest 8, 16 bits): 1", TWO + """
            sheet(0, 0, 1) = 1
            cell(0, 0, {7 263 -249}) = 1
            tells(0, 1, 7, 0) = NONE
            sheet(0, 1, 1) = 1
            cell(0, 0, 263) = 1
            tells(0, 1, 7, 0) = 0
            cell(0, 0, {65543 -65529}) = 1
            tells(0, 1, 7, 0) = NONE
            sheet(0, 2, 1) = 1
            cell(0, 0, 65543) = 1
            tells(0, 1, 7, 0) = 0
            cell(0, 0, {MIN MAX}) = 1
            tells(0, 1, {0 7}, 0) = 0
            cell(0, 0, 7) = 1
            tells(0, 1, 7, 0) = NONE
            """);
        Script.run("25: BAD: no such SHEET; -11; -12", """
            cell({-1 4 MIN MAX}, {-1 0}, 0) = BAD
            cell(0, {-1 0 MAX}, 0) = NOTHING
            sheet(0, 0, 0) = 1
            cell(0, {-1 0 MIN MAX}, 0) = OUTSIDE
            sheet(0, 0, 2) = 1
            cell(0, {-1 2 40 MIN MAX}, 5) = OUTSIDE
            cell(0, {0 1}, 1) = 1
            """);
    }

    private static void copy() {
        Script.run("26: BAD: no such SHEET; -11; -13: they are of unlike sorts; -12 (also with n below 0)", """
            sheet(0, 1, 3) = 1
            sheet(1, 1, 2) = 1
            sheet(2, 2, 3) = 1
            copy({-1 4 MIN MAX}, 0, 0, 0, 1) = BAD
            copy(0, 0, {-1 4 MIN MAX}, 0, 1) = BAD
            copy(3, 0, 4, 0, -1) = BAD
            copy(3, 0, {0 3}, 0, {-1 0 1}) = NOTHING
            copy(0, 9, 3, 9, 0) = NOTHING
            copy(0, {-1 0 9}, 2, 0, {-1 0 1}) = UNLIKE
            copy(0, 0, 1, 0, {-1 3 MIN MAX}) = OUTSIDE
            copy(0, {-1 3 MIN MAX}, 1, 0, 1) = OUTSIDE
            copy(0, 0, 1, {-1 2 MIN MAX}, 1) = OUTSIDE
            copy(0, 2, 1, 0, 2) = OUTSIDE
            copy(0, 0, 1, 1, 2) = OUTSIDE
            copy(0, 4, 1, 0, 0) = OUTSIDE
            copy(0, 0, 1, 3, 0) = OUTSIDE
            copy(0, -1, 1, 0, 0) = OUTSIDE
            copy(0, 0, 1, -1, 0) = OUTSIDE
            copy(0, MAX, 1, MAX, MAX) = OUTSIDE
            copy(0, MIN, 1, MIN, MIN) = OUTSIDE
            copy(0, 3, 1, 2, 0) = 0
            copy(0, 1, 1, 0, 2) = 2
            copy(0, 0, 0, 0, 3) = 3
            """);
    }

    private static void copyOfMany() {
        Script.run("26: n numbers come to another one's item j on (as they were)", LINE + TWO + """
            sheet(0, 0, 4) = 1
            cell(0, 0, 0) = 1
            cell(0, 1, 1) = 1
            cell(0, 2, 2) = 1
            cell(0, 3, 3) = 1
            sheet(1, 0, 40) = 1
            copy(0, 0, 1, 36, 4) = 4
            sheet(2, 0, 4) = 1
            copy(1, 36, 2, 0, 4) = 4
            tells(2, 1, 0, 0) = NONE
            copy(0, 0, 0, 1, 3) = 3
            copy(0, 1, 2, 0, 3) = 3
            tells(2, 1, 0, 0) = NONE
            copy(0, 1, 0, 0, 3) = 3
            copy(2, 3, 0, 3, 1) = 1
            tells(0, 1, 0, 0) = NONE
            """);
    }

    private static void people() {
        Script.run("27: from one on, three by three, n of them (0 .. 6): how many came", """
            sheet(0, 0, 19) = 1
            people(0, 0, 1, 0) = 0
            cell(0, 16, 5) = 1
            cell(0, 17, 9) = 1
            cell(0, 18, 7) = 1
            people(0, 0, 1, 6) = 6
            told(5, 3) = 5
            told(5, 1) = 9
            told(5, 2) = 7
            told(0, {1 2 3}) = 0
            people(0, 0, 0, 6) = 0
            """);
        Script.run("27: (others are left out)", """
            sheet(1, 2, 21) = 1
            cell(1, 0, 6) = 1
            cell(1, 3, -1) = 1
            cell(1, 7, 10) = 1
            cell(1, 11, 8) = 1
            cell(1, 13, MIN) = 1
            cell(1, 17, MAX) = 1
            cell(1, 19, 4) = 1
            people(1, 2, 0, 6) = 0
            people(1, 2, 3, 6) = 1
            told(0, 1) = 4
            """);
        Script.run("27: (others are left out): whom there is no room for", TWO + """
            sheet(1, 1, 18) = 1
            cell(1, 1, 3) = 1
            people(1, 1, 0, 6) = 4
            told(2, 1) = 3
            count(0) = 6
            people(1, 1, 0, 6) = 0
            """);
    }

    private static void peopleOutside() {
        Script.run("27: BAD: no such SHEET, sort, n; -13; -11; -12", """
            sheet(0, 1, 6) = 1
            people({-1 4 MIN MAX}, 1, 0, 1) = BAD
            people({0 3}, {-1 3 MIN MAX}, 0, 1) = BAD
            people({0 3}, 1, 0, {-1 7 MIN MAX}) = BAD
            people(0, {0 2}, 0, {0 1}) = UNLIKE
            people(0, {0 2}, -1, 1) = UNLIKE
            people(3, {0 1 2}, {-1 0}, {0 1}) = NOTHING
            people(0, 1, {-1 4 6 MIN MAX}, 1) = OUTSIDE
            people(0, 1, {-3 -6}, 3) = OUTSIDE
            people(0, 1, {MIN MAX 2147483645}, 6) = OUTSIDE
            people(0, 1, 3, 1) = 1
            """);
        Script.run("27: -12: what stood ahead came", """
            sheet(0, 1, 8) = 1
            cell(0, 0, 6) = 1
            cell(0, 4, 9) = 1
            people(0, 1, 0, 3) = -12
            count(0) = 1
            told(0, 1) = 9
            people(0, 1, 2, 6) = -12
            count(0) = 2
            people(0, 1, 3, 2) = -12
            count(0) = 3
            """);
        Script.run("27: -12, where there is no room either", SIX + """
            sheet(0, 0, 17) = 1
            people(0, 0, 0, 6) = OUTSIDE
            people(0, 0, 0, 5) = 0
            """);
    }

    private static void taken() {
        String[] due = {
            "{0 1 2 3 4 5}", "{1 3}", "{2 4}", "3", "4", "5"};
        for (int k = 0; k < 6; k++) {
            StringBuilder rows = new StringBuilder();
            for (int kind = 0; kind < 6; kind++) {
                rows.append("person(").append(kind).append(", 7, 0) = ").append(kind).append('\n');
            }
            for (int kind = 0; kind < 6; kind++) {
                boolean under = due[k].indexOf('0' + kind) >= 0;
                rows.append("taken(").append(kind).append(", ").append(k).append(") = ").append(under ? "7" : "UNLIKE").append('\n');
            }
            Script.run("28: taken for one of KIND k (0 .. 5), or one under that one (also by others between)", rows.toString());
        }
        Script.run("28: BAD: k; -11: none such; -13", """
            person(5, 0, 0) = 0
            taken({-1 0 1 MIN MAX}, {-1 6 MIN MAX}) = BAD
            taken({-1 1 MIN MAX}, {0 5}) = NOTHING
            taken(0, {1 2 3 4}) = UNLIKE
            taken(0, {0 5}) = 0
            set(1, 0, 9) = 0
            taken(0, {0 5}) = 9
            """);
    }
}
