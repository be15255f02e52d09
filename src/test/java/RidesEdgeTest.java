/** The edges that the Terms of rides name: when one ends, of like ones the first, none, all, and a wrap. */
public final class RidesEdgeTest {
    /** 0 - 1 - .. - 7, each a mile apart. */
    private static final String LINE = """
        road(0, 1, 1) = 0
        road(1, 2, 1) = 0
        road(2, 3, 1) = 0
        road(3, 4, 1) = 0
        road(4, 5, 1) = 0
        road(5, 6, 1) = 0
        road(6, 7, 1) = 0
        """;
    /** Of 0 in FRONT, who would to 7, and 1, who would to 0: from 2 to 3, and back again, and so on. */
    private static final String TO_AND_FRO = LINE + """
        person(0, 0, 7) = 0
        person(0, 0, 0) = 1
        read "pulls behind*(2<miles)*2; moods 1; enough 0;" = 1
        force(1) = 0
        """;

    public static void main(String[] args) {
        endsByEnough();
        endsAtTheGoal();
        endsWithoutAWay();
        steers();
        steps();
        fortySteps();
        far();
        best();
        from();
        together();
        rules();
        rulesAtStep0();
        shut();
        round();
        toldSheets();
        toldBits();
        drawn();
        seeds();
        ofAllTwos();
        images();
        Check.end();
    }

    private static void endsByEnough() {
        Script.run("It ENDS, if both have ENOUGH", LINE + """
            person(5, 0, 7) = 0
            person(5, 3, 7) = 1
            ride(0, 1, 0, {0 1 2}) = 3
            ride(1, 0, 0, {0 1 2}) = 3
            ride(0, 1, 0, 4) = 15
            set(1, 1, 1) = 3
            ride(0, 1, 0, {0 1 2}) = 1
            set(1, 1, 0) = 1
            ride(0, 1, 0, {0 1 2 3 5}) = 0
            ride(0, 1, 0, 4) = 1
            ride(0, 1, 0, {10 50}) = 0
            """);
        Script.run("It ENDS, if both have ENOUGH: not if one alone has", LINE + """
            person(5, 0, 7) = 0
            person(4, 0, 7) = 1
            ride(0, 1, 0, {0 1 2}) = 7
            ride(1, 0, 0, {0 1 2}) = 7
            """);
    }

    private static void endsAtTheGoal() {
        Script.run("It ENDS, if they are at the GOAL of who STEERS, not at the other's", LINE + """
            person(0, 5, 5) = 0
            person(0, 1, 3) = 1
            ride(0, 1, 1, 0) = 5
            ride(0, 1, 1, {1 2 5}) = 4
            ride(1, 0, 1, {1 2}) = 4
            ride(1, 0, 1, 5) = 0
            ride(0, 1, 3, 1) = 2
            ride(0, 1, 5, 1) = 0
            ride(0, 1, 5, 4) = 32
            """);
    }

    private static void endsWithoutAWay() {
        Script.run("It ENDS, if there is no way to that", LINE + """
            person(0, 5, 7) = 0
            person(0, 1, 0) = 1
            road(6, 7, 0) = 1
            ride(0, 1, 3, 0) = 3
            ride(0, 1, 3, {1 2}) = 0
            ride(1, 0, 3, 0) = 3
            ride(1, 0, 7, {1 2}) = 0
            ride(1, 0, 7, {0 10 50}) = 7
            road(6, 7, 99) = 0
            ride(1, 0, 3, 0) = 7
            ride(1, 0, 3, 2) = 102
            """);
        Script.run("there is no way: no ROADS at all", """
            person(0, 5, 7) = 0
            person(0, 1, 0) = 1
            ride(0, 1, {1 7}, {1 2 3}) = 0
            ride(0, 1, 3, 0) = 3
            """);
    }

    private static void steers() {
        Script.run("STEERS: who has more of PULL and MOOD, together; of like ones who is in FRONT", """
            person(0, 2, 0) = 0
            person(2, 2, 0) = 1
            asks(0, 1, 0, 0, 5) = 1
            asks(1, 0, 0, 0, 5) = 1
            set(1, 0, 3) = 2
            asks(0, 1, 0, 0, 5) = 0
            asks(1, 0, 0, 0, 5) = 1
            set(1, 0, 4) = 3
            asks(0, 1, 0, 0, 5) = 0
            asks(1, 0, 0, 0, 5) = 0
            """);
        Script.run("STEERS: of PULL 0 and MOOD 0 in both who is in FRONT", """
            person(0, 0, 0) = 0
            person(0, 0, 0) = 1
            asks(0, 1, 0, 40, {0 1 2 3}) = 0
            asks(0, 1, 0, 40, 5) = 0
            asks(1, 0, 0, 40, 5) = 1
            """);
        Script.run("STEERS: a MOOD of 9 more against a PULL of 8 more, of 9 and of 10 more", """
            person(0, 9, 0) = 0
            person(0, 0, 0) = 1
            read "pulls behind*8; moods number; enough 0;" = 1
            read "pulls behind*9; moods number; enough 0;" = 2
            read "pulls behind*10; moods number; enough 0;" = 3
            force(1) = 0
            asks(0, 1, 0, 0, 5) = 0
            force(2) = 1
            asks(0, 1, 0, 0, 5) = 0
            force(3) = 2
            asks(0, 1, 0, 0, 5) = 1
            """);
    }

    private static void steps() {
        Script.run("a STEP, by a ROAD to the PLACE beside ..; of like ones the first", """
            person(0, 5, 7) = 0
            person(0, 1, 0) = 1
            road(0, 6, 2) = 0
            road(6, 7, 3) = 0
            ride(0, 1, 0, 11) = 6
            road(0, 1, 4) = 0
            road(1, 7, 1) = 0
            ride(0, 1, 0, 11) = 1
            ride(0, 1, 0, 4) = 131
            road(0, 7, 5) = 0
            ride(0, 1, 0, 11) = 1
            ride(0, 1, 0, 2) = 5
            road(1, 7, 2) = 1
            ride(0, 1, 0, 11) = 6
            road(0, 6, 3) = 2
            ride(0, 1, 0, 11) = 7
            ride(0, 1, 0, 2) = 5
            """);
        Script.run("All told as it is there, then: who STEERS, by miles and steps", LINE + """
            person(0, 0, 7) = 0
            person(0, 0, 0) = 1
            read "pulls behind*(3<steps); moods 0; enough 0;" = 1
            force(1) = 0
            ride(0, 1, 1, 14) = 5
            ride(0, 1, 1, 15) = 4
            ride(0, 1, 1, 0) = 0
            ride(0, 1, 1, {1 2}) = 9
            ride(0, 1, 1, 5) = 4
            """);
    }

    private static void fortySteps() {
        Script.run("STEPS of a RIDE: 40 at most; then it ENDS, too", TO_AND_FRO + """
            ride(0, 1, 2, {1 2}) = 40
            ride(0, 1, 2, 3) = 1
            ride(0, 1, 2, 4) = 12
            ride(0, 1, 2, 5) = 20
            ride(0, 1, 2, {0 10 12 48 50}) = 2
            ride(0, 1, 2, {11 13 49}) = 3
            ride(0, 1, 3, {0 10 50}) = 3
            ride(0, 1, 3, {11 49}) = 2
            """);
        Script.run("STEPS of a RIDE: 40 at most, 99 miles each", """
            person(0, 0, 7) = 0
            person(0, 0, 0) = 1
            road(0, 1, 99) = 0
            road(1, 7, 99) = 0
            read "pulls behind*(miles=99)*2; moods 1; enough 0;" = 1
            force(1) = 0
            ride(0, 1, 0, 2) = 3960
            goes(0, 1, 0) = 3960
            """);
        Script.run("STEPS of a RIDE: it may END at its GOAL at the last", LINE + """
            person(0, 0, 7) = 0
            person(0, 0, 0) = 1
            read "pulls behind*((2<miles and steps<36))*2; moods 1; enough 0;" = 1
            read "pulls behind*((2<miles and steps<37))*2; moods 1; enough 0;" = 2
            force(1) = 0
            ride(0, 1, 3, 1) = 40
            ride(0, 1, 3, 0) = 7
            from(0, 1) = 170
            force(2) = 1
            ride(0, 1, 3, 1) = 40
            ride(0, 1, 3, 0) = 5
            """);
    }

    private static void far() {
        Script.run("FAR (two PLACES): by ROADS at least; NONE", LINE + """
            far(0, 7) = 7
            far(7, 0) = 7
            far(4, 4) = 0
            road(0, 7, 8) = 0
            far(0, 7) = 7
            road(0, 7, 6) = 8
            far(0, 7) = 6
            road(3, 4, 0) = 1
            far(3, 4) = 12
            road(0, 7, 0) = 6
            far(3, 4) = NONE
            far(0, 7) = NONE
            far(0, 3) = 3
            """);
    }

    private static void best() {
        Script.run("BEST BEHIND: NONE, where nobody else is", """
            person(0, 0, 0) = 0
            best(0, 0, {0 1}) = NONE
            """);
        Script.run("BEST BEHIND: NONE, where nobody makes it END there", LINE + """
            person(0, 1, 0) = 0
            person(0, 2, 7) = 1
            best(0, 3, {0 1}) = NONE
            best(0, 0, {0 1}) = NONE
            best(1, 3, 0) = 0
            best(1, 3, 1) = 4
            best(1, 7, 0) = 0
            best(1, 7, 1) = 0
            """);
        Script.run("BEST BEHIND: in fewest miles; of like ones the first", LINE + """
            person(0, 1, 3) = 0
            person(0, 0, 7) = 1
            person(0, 0, 7) = 2
            best(0, 0, 0) = 1
            best(0, 0, 1) = 3
            set(1, 1, 9) = 0
            best(0, 0, 0) = 2
            set(1, 1, 0) = 9
            best(0, 0, 0) = 1
            best(2, 0, 0) = 1
            best(2, 0, 1) = 7
            best(1, 0, 0) = 2
            """);
        Script.run("BEST BEHIND: it ENDS at the GOAL of who is in FRONT, by whom soever", LINE + """
            person(0, 1, 7) = 0
            person(0, 2, 7) = 1
            person(0, 0, 3) = 2
            best(0, 0, 0) = 1
            best(0, 0, 1) = 7
            """);
    }

    private static void from() {
        Script.run("FROM: PLACES (bits) from which the RIDE ENDS at the GOAL of who is in FRONT: none, all, some", LINE + """
            person(0, 1, 7) = 0
            person(0, 2, 0) = 1
            from(0, 1) = 0
            from(1, 0) = 255
            road(3, 4, 0) = 1
            from(1, 0) = 15
            from(0, 1) = 128
            set(2, 1, 7) = 0
            from(0, 1) = 240
            """);
    }

    private static void together() {
        Script.run("TOGETHER: fewer than two", """
            together({0 7}, {0 1}) = 0
            person(0, 0, 0) = 0
            together({0 7}, {0 1}) = 0
            """);
        Script.run("TOGETHER: of like ones the first; of an odd number one rides not", """
            person(0, 0, 0) = 0
            person(0, 0, 0) = 1
            together(3, 0) = 12
            person(0, 0, 0) = 2
            together(3, 0) = 12
            person(0, 0, 0) = 3
            together(3, 0) = 1234
            person(0, 0, 0) = 4
            together(3, 0) = 1234
            person(0, 0, 0) = 5
            together(3, 0) = 123456
            together({0 7}, 1) = 0
            """);
        Script.run("TOGETHER: each greater one in order, rides not last", LINE + """
            person(0, 1, 1) = 0
            person(0, 1, 5) = 1
            person(0, 1, 5) = 2
            together(0, 0) = 12
            together(0, 1) = 1
            set(1, 1, 2) = 1
            together(0, 0) = 13
            together(0, 1) = 1
            set(1, 2, 2) = 1
            together(0, 1) = 5
            together(0, 0) = 12
            set(2, 2, 2) = 5
            set(2, 1, 3) = 5
            together(0, 0) = 13
            together(0, 1) = 2
            set(2, 0, 4) = 1
            set(1, 0, 3) = 1
            set(1, 2, 1) = 2
            together(0, 0) = 23
            together(0, 1) = 3
            """);
        Script.run("TOGETHER: the lesser of two in FRONT", LINE + """
            person(0, 1, 2) = 0
            person(0, 1, 7) = 1
            together(0, 1) = 2
            together(7, 1) = 5
            """);
        Script.run("TOGETHER: five, of whom each may be the one that rides not", LINE + """
            person(0, 9, 7) = 0
            person(0, 1, 0) = 1
            person(0, 1, 0) = 2
            person(0, 1, 0) = 3
            person(0, 1, 0) = 4
            together(0, 0) = 2345
            set(1, 0, 1) = 9
            set(1, 4, 9) = 1
            set(2, 0, 0) = 7
            set(2, 4, 7) = 0
            together(0, 0) = 1234
            set(1, 4, 1) = 9
            set(1, 2, 9) = 1
            set(2, 2, 7) = 0
            set(2, 4, 0) = 7
            together(0, 0) = 1245
            together(0, 1) = 0
            """);
    }

    private static void rules() {
        Script.run("RULES (one): PEOPLE (bits) whom one, behind them, STEERS at each PLACE at STEP 0", """
            person(0, 0, 0) = 0
            told(0, 5) = 0
            person(0, 0, 0) = 1
            person(0, 0, 0) = 2
            person(0, 0, 0) = 3
            person(0, 0, 0) = 4
            person(0, 0, 0) = 5
            told({0 5}, 5) = 0
            set(1, 5, 1) = 0
            told(5, 5) = 31
            told(0, 5) = 0
            set(1, 0, 2) = 0
            told(0, 5) = 62
            told(5, 5) = 30
            set(1, 1, 1) = 0
            told({1 5}, 5) = 28
            """);
        Script.run("RULES: at each PLACE, not at all but one", """
            person(0, 0, 7) = 0
            person(0, 0, 7) = 1
            read "pulls behind*miles; moods 0; enough 0;" = 1
            read "pulls behind*(miles+1); moods 0; enough 0;" = 2
            force(1) = 0
            told({0 1}, 5) = 0
            force(2) = 1
            told(0, 5) = 2
            told(1, 5) = 1
            set(2, 0, 0) = 7
            set(2, 1, 0) = 7
            force(1) = 2
            told({0 1}, 5) = 0
            """);
    }

    private static void rulesAtStep0() {
        Script.run("RULES: at STEP 0", """
            person(0, 0, 7) = 0
            person(0, 0, 7) = 1
            read "pulls behind*(steps=0); moods 0; enough 0;" = 1
            read "pulls behind*(0<steps); moods 0; enough 0;" = 2
            force(1) = 0
            told(0, 5) = 2
            told(1, 5) = 1
            force(2) = 1
            told({0 1}, 5) = 0
            """);
    }

    private static void shut() {
        Script.run("SHUT: NONE, where there are no ROADS, or it is not LONGER", """
            person(0, 5, 7) = 0
            person(0, 1, 0) = 1
            shut(0, 1, 0, 0) = NONE
            shut(0, 1, 0, 1) = 0
            road(0, 7, 9) = 0
            shut(0, 1, 0, 0) = NONE
            shut(0, 1, 0, 1) = 9
            road(0, 1, 5) = 0
            road(1, 7, 4) = 0
            shut(0, 1, 0, 0) = NONE
            shut(0, 1, 0, 1) = 9
            road(1, 7, 5) = 4
            shut(0, 1, 0, 0) = 7
            shut(0, 1, 0, 1) = 10
            far(0, 7) = 9
            count(1) = 3
            """);
        Script.run("SHUT: 10 times the one PLACE, and the other, the lesser first; of like ones the first", LINE + """
            person(0, 5, 5) = 0
            person(0, 1, 0) = 1
            road(5, 7, 3) = 0
            shut(0, 1, 7, 0) = 56
            shut(0, 1, 7, 1) = 3
            road(5, 7, 2) = 3
            shut(0, 1, 7, 0) = NONE
            shut(0, 1, 7, 1) = 2
            road(5, 7, 3) = 2
            road(6, 7, 2) = 1
            shut(0, 1, 7, 0) = NONE
            road(5, 7, 4) = 3
            shut(0, 1, 7, 0) = 56
            set(2, 0, 6) = 5
            shut(0, 1, 7, 0) = 67
            shut(0, 1, 7, 1) = 5
            """);
    }

    private static void round() {
        Script.run("ROUND (a RIDE): whether it comes to a PLACE twice", TO_AND_FRO + """
            ride(0, 1, 2, 3) = 1
            ride(0, 1, 4, 3) = 1
            set(2, 1, 7) = 0
            ride(0, 1, 0, 3) = 0
            ride(0, 1, 0, 4) = 255
            ride(0, 1, 7, 3) = 0
            """);
        Script.run("ROUND: from where they began, too", LINE + """
            person(5, 2, 7) = 0
            person(5, 2, 0) = 1
            read "pulls 0; moods behind*steps*4; enough 0;" = 1
            force(1) = 0
            ride(0, 1, 3, {10 12 50}) = 3
            ride(0, 1, 3, 11) = 4
            ride(0, 1, 3, 3) = 1
            set(1, 0, 1) = 2
            set(1, 1, 1) = 2
            ride(0, 1, 3, 3) = 0
            """);
    }

    /** A SHEET 0 of 20 PLACES of a ride from 0 to 2, which ENDS there. */
    private static final String TWENTY = LINE + """
        person(0, 5, 2) = 0
        person(0, 1, 7) = 1
        sheet(0, 0, 20) = 1
        cell(0, 1, 1) = 1
        cell(0, {2 3 4 5 6 7 8 9 10 11 12 13 14 15 16 17 18 19}, 2) = 1
        """;

    private static void toldSheets() {
        Script.run("TOLD: 20 at most numbers; behind its END where it ENDED", TWENTY + """
            tells(0, 1, 0, 0) = NONE
            tells(0, 1, 0, 1) = 2
            tells(0, 1, 1, 0) = 0
            cell(0, 19, 3) = 1
            tells(0, 1, 0, 0) = 19
            tells(0, 1, 0, {1 2 3 4 5 6}) = 0
            cell(0, 0, 7) = 1
            tells(0, 1, 0, 0) = 0
            cell(0, 0, -1) = 1
            tells(0, 1, 0, 0) = 0
            sheet(0, 0, 21) = 1
            tells(0, 1, 0, {0 1 2 3 4 5 6}) = BAD
            sheet(0, 2, 40) = 1
            tells(0, 1, 0, {0 6}) = BAD
            """);
        Script.run("TOLD: a SHEET of 0 numbers tells nothing that is otherwise", LINE + """
            person(0, 5, 2) = 0
            person(0, 1, 7) = 1
            person(0, 1, 7) = 2
            sheet(3, 1, 0) = 1
            tells(3, 1, 0, 0) = NONE
            tells(3, 1, 0, 1) = 6
            tells(3, 10, 0, 1) = 5
            tells(3, 1, 0, 2) = 63
            tells(3, 1, 0, 3) = 1023
            tells(3, 1, 0, 4) = 255
            tells(3, 1, 0, 5) = 16777215
            tells(3, 1, 0, 6) = 1
            """);
        Script.run("TOLD: the first (from 0) that is otherwise, of a RIDE of 40 STEPS", TO_AND_FRO + """
            sheet(1, 2, 20) = 1
            cell(1, {0 2 4 6 8 10 12 14 16 18}, 2) = 1
            cell(1, {1 3 5 7 9 11 13 15 17 19}, 3) = 1
            tells(1, 1, 2, 0) = NONE
            tells(1, 1, 3, 0) = 0
            cell(1, 18, 3) = 1
            tells(1, 1, 2, 0) = 18
            """);
    }

    private static void toldBits() {
        Script.run("TOLD: KINDS (bits 0 .. 5), NUMBERS (bits 0 .. 9), GOALS (bits 0 .. 7), the least and the most", LINE + """
            person(5, 0, 3) = 0
            person(4, 9, 4) = 1
            read "pulls 0; moods 0; enough 0;" = 1
            force(1) = 0
            sheet(0, 0, 2) = 1
            cell(0, 0, 3) = 1
            cell(0, 1, 4) = 1
            tells(0, 1, 3, 2) = 20
            tells(0, 1, 3, 3) = 1023
            tells(0, 1, 3, 4) = 240
            cell(0, 1, 2) = 1
            tells(0, 1, 3, 4) = 7
            cell(0, 1, 3) = 1
            tells(0, 1, 3, 4) = 8
            tells(0, 1, 3, 2) = 43
            told(1, 3) = 4
            told(1, 1) = 9
            told(1, 2) = 4
            """);
        Script.run("TOLD: NUMBERS (bits 0 .. 9): some", LINE + """
            person(0, 5, 3) = 0
            person(0, 9, 4) = 1
            sheet(0, 0, 2) = 1
            cell(0, 0, 3) = 1
            cell(0, 1, 4) = 1
            tells(0, 1, 3, 3) = 960
            cell(0, 1, 3) = 1
            tells(0, 1, 3, 3) = 63
            """);
        Script.run("TOLD: HOURS (bits 0 .. 23)", LINE + """
            person(0, 5, 3) = 0
            person(0, 9, 4) = 1
            read "pulls behind*(hour<1); moods 0; enough 0;" = 1
            read "pulls behind*(22<hour); moods 0; enough 0;" = 2
            force(1) = 0
            sheet(0, 0, 2) = 1
            cell(0, 0, 3) = 1
            cell(0, 1, 4) = 1
            tells(0, 1, 3, 5) = 1
            force(2) = 1
            tells(0, 1, 3, 5) = 8388608
            told(0, 0) = 9
            """);
        Script.run("TOLD: TEXTS (bits), were they THE RULE: six", LINE + """
            person(0, 5, 3) = 0
            person(0, 5, 4) = 1
            read "pulls 0; moods behind; enough 0;" = 1
            read "pulls 0; moods 0; enough 0;" = 2
            read "pulls 0; moods 0; enough 1;" = 3
            read "pulls behind; moods 0; enough 1;" = 4
            read "pulls behind; moods 0; enough 0;" = 5
            sheet(0, 0, 1) = 1
            cell(0, 0, 3) = 1
            tells(0, 1, 3, 6) = 63
            sheet(0, 0, 2) = 1
            cell(0, 0, 3) = 1
            cell(0, 1, 4) = 1
            tells(0, 1, 3, 6) = 34
            cell(0, 1, 3) = 1
            tells(0, 1, 3, 6) = 29
            count(5) = 0
            """);
        Script.run("TOLD: PEOPLE (bits) who could be behind: the first and the last", LINE + """
            person(0, 9, 4) = 0
            person(0, 1, 3) = 1
            person(0, 2, 3) = 2
            person(0, 1, 3) = 3
            person(0, 2, 3) = 4
            person(0, 9, 4) = 5
            sheet(0, 0, 2) = 1
            cell(0, 0, 3) = 1
            cell(0, 1, 4) = 1
            tells(0, {12 10 15}, 3, 1) = 33
            tells(0, {1 5}, 3, 1) = 62
            tells(0, {50 54}, 3, 1) = 31
            """);
    }

    private static void drawn() {
        String all = "DRAWN by a SEED: (z >>> 9) % 8, z being z * 1103515245 + 12345 (an int; SEED at first) anew for each";
        Script.run(all, LINE + """
            person(0, 1, 1) = 0
            person(0, 9, 2) = 1
            drawn(0, {1 10}, 0) = 3
            drawn(1, {1 10}, 0) = 0
            drawn(-1, {1 10}, 0) = 6
            drawn(MAX, {1 10}, 0) = 6
            drawn(MIN, {1 10}, 0) = 3
            drawn(12345, {1 10}, 0) = 3
            drawn(7, {1 10}, 7) = 0
            drawn(-7, 1, 7) = 1
            told(0, 2) = 1
            told(1, 2) = 2
            set(1, 1, 0) = 9
            drawn(0, {1 10}, 7) = 7
            drawn(1, {1 10}, 0) = 7
            drawn(-7, {1 10}, 0) = 5
            """);
        Script.run("DRAWN: the last of six", LINE + """
            person(0, 1, 1) = 0
            person(0, 1, 1) = 1
            person(0, 1, 1) = 2
            person(0, 1, 1) = 3
            person(0, 1, 1) = 4
            person(0, 9, 1) = 5
            drawn(0, {5 50}, 0) = 6
            drawn(1, {25 52}, 0) = 2
            drawn(-1, 54, 0) = 2
            drawn(12345, 45, 0) = 1
            """);
        Script.run("DRAWN: LONG of a RIDE that stays", """
            person(0, 1, 1) = 0
            person(0, 9, 1) = 1
            drawn(0, 1, {0 7}) = 0
            """);
    }

    private static void seeds() {
        Script.run("IN m seeds (1 .. 20), SEED and each 1 more (an int): none, all, some, in lowest terms", """
            person(0, 1, 1) = 0
            person(0, 9, 1) = 1
            chance(0, 1, 1, {0 1}) = 1
            chance(1, 1, 1, 0) = 0
            chance(1, 1, 1, 1) = 1
            chance(1, 9, 1, 0) = 0
            chance(1, 9, 1, 1) = 1
            chance(-1, 2, 1, {0 1}) = 1
            chance(-1, 4, 1, 0) = 1
            chance(-1, 4, 1, 1) = 2
            chance(0, 11, 1, 0) = 2
            chance(0, 11, 1, 1) = 11
            chance(0, 20, 1, 0) = 1
            chance(0, 20, 1, 1) = 10
            chance(1, 19, 1, 0) = 1
            chance(1, 19, 1, 1) = 19
            chance(1, 20, 1, 0) = 1
            chance(1, 20, 1, 1) = 10
            told({0 1}, 2) = 1
            """);
        Script.run("SEED and each 1 more (an int): the most, and 1 more", """
            person(0, 1, 1) = 0
            person(0, 9, 1) = 1
            chance(MAX, 1, 1, {0 1}) = 1
            chance(MAX, 2, 1, {0 1}) = 1
            chance(MAX, 3, 1, 0) = 2
            chance(MAX, 3, 1, 1) = 3
            chance(MAX, 20, 1, 0) = 3
            chance(MAX, 20, 1, 1) = 20
            chance(2147483646, 2, 1, 0) = 1
            chance(2147483646, 2, 1, 1) = 2
            chance(2147483646, 2, 10, 0) = 1
            chance(2147483646, 2, 10, 1) = 2
            """);
    }

    private interface Due {
        int of(int front, int behind);
    }

    /** A row for each two of six, with 00 in the call for who is in FRONT and who is behind. */
    private static String allTwos(String call, Due due) {
        StringBuilder rows = new StringBuilder();
        for (int front = 0; front < 6; front++) {
            for (int behind = 0; behind < 6; behind++) {
                if (front != behind) {
                    rows.append(call.replace("FRONT", "" + front).replace("BEHIND", "" + behind)
                        .replace("TWO", "" + (10 * front + behind))).append(" = ").append(due.of(front, behind)).append('\n');
                }
            }
        }
        return rows.toString();
    }

    /** Six, of whom the greater is the stronger; their GOALS are those. */
    private static String six(int... goals) {
        StringBuilder rows = new StringBuilder(LINE);
        for (int one = 0; one < 6; one++) {
            rows.append("person(0, %d, %d) = %d\n".formatted(one, goals[one], one));
        }
        return rows.toString();
    }

    private static void ofAllTwos() {
        Script.run("TOLD: of who is behind GOALS, of all twos", six(7, 7, 7, 7, 7, 7) + """
            sheet(0, 0, 2) = 1
            cell(0, 0, 3) = 1
            cell(0, 1, 4) = 1
            """ + allTwos("tells(0, TWO, 3, 4)", (front, behind) -> behind > front ? 240 : 255));
        int[] goals = {0, 3, 3, 6, 3, 6};
        Script.run("IN m seeds: it ENDS at the GOAL of who is in FRONT, of all twos", six(7, 7, 7, 7, 7, 7)
            + allTwos("chance(0, 1, TWO, 0)", (front, behind) -> front > behind || goals[front] == goals[behind] ? 1 : 0));
        int[] others = {7, 0, 2, 5, 7, 2};
        Script.run("IN m seeds: it ENDS at the GOAL of who is in FRONT, of all twos", six(0, 0, 0, 0, 0, 0)
            + allTwos("chance(1, 1, TWO, 0)", (front, behind) -> front > behind || others[front] == others[behind] ? 1 : 0));
        StringBuilder reversed = new StringBuilder();
        for (int one = 0; one < 6; one++) {
            reversed.append("set(1, %d, %d) = %d\n".formatted(one, 5 - one, one));
        }
        Script.run("IN m seeds, of all twos, the lesser the stronger", six(0, 0, 0, 0, 0, 0) + reversed
            + allTwos("chance(1, 1, TWO, 0)", (front, behind) -> front < behind || others[front] == others[behind] ? 1 : 0));
        Script.run("DRAWN, of all twos", six(7, 7, 7, 7, 7, 7)
            + allTwos("drawn(1, TWO, 7)", (front, behind) -> 7 - others[Math.max(front, behind)]));
        Script.run("SHUT, of all twos", six(1, 2, 3, 4, 5, 6) + "road(0, 7, 20) = 0\n"
            + allTwos("shut(FRONT, BEHIND, 0, 1)", (front, behind) -> 26 - Math.max(front, behind)));
        Script.run("FROM, of all twos", six(1, 2, 3, 4, 5, 6)
            + allTwos("from(FRONT, BEHIND)", (front, behind) -> front > behind ? 255 : 0));
    }

    private static void images() {
        Script.run("AN IMAGE keeps ROADS, HOUR, NUMBERS, GOALS, RIDDEN, THE RULE (PEOPLE that came since go)", """
            person(0, 9, 7) = 0
            person(1, 3, 0) = 1
            road(0, 7, 5) = 0
            read "pulls number; moods 0; enough 0;" = 1
            goes(0, 1, 0) = 5
            image() = 2
            road(0, 7, 6) = 5
            road(1, 2, 3) = 0
            set(0, 0, 12) = 9
            set(1, 1, 4) = 3
            set(2, 0, 6) = 7
            set(2, 0, 7) = 6
            goes(0, 1, 0) = 6
            force(1) = 0
            person(2, 2, 2) = 2
            goes(0, 2, 0) = 6
            back() = 2
            count(0) = 2
            count(1) = 1
            count(2) = 10
            count(3) = 2
            count(5) = 0
            far(0, 7) = 5
            far(1, 2) = NONE
            told(0, 0) = 9
            told(1, 1) = 3
            told(0, 2) = 7
            told({0 1}, 4) = 5
            told(2, {1 2 3 4 5}) = BAD
            person(5, 1, 0) = 2
            told(2, 3) = 5
            told(2, 4) = 0
            back() = 2
            """);
    }
}
