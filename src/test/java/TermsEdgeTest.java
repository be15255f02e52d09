/** The edges that the Terms name: each sentence, and what it makes of the least, the most, none, and a wrap. */
public final class TermsEdgeTest {
    /** 0 - 1 - .. - 7, each a mile apart. */
    private static final String LINE = """
        road(0, 1, 1) = 0
        road(1, 2, 1) = 0
        road(2, 3, 1) = 0
        road(3, 4, 1) = 0
        road(4, 5, 1) = 0
        road(5, 6, 1) = 0
        road(6, 7, 1) = 0
        """;

    public static void main(String[] args) {
        roadsAndHour();
        people();
        pulls();
        moods();
        enough();
        tokens();
        bytesThatBeginNone();
        textsThatEndTooEarly();
        openOnes();
        wraps();
        truths();
        names();
        bounds();
        theFirstRule();
        Check.end();
    }

    private static void roadsAndHour() {
        Script.run("two PLACES are so many miles apart by a ROAD (1 .. 99), or there is none (0, at first)", """
            far(0, 7) = NONE
            road(0, 7, 1) = 0
            far(0, 7) = 1
            count(1) = 1
            road(7, 0, 99) = 1
            far(0, 7) = 99
            road(0, 7, 0) = 99
            far(0, 7) = NONE
            count(1) = 0
            """);
        Script.run("HOUR (0 .. 23; 9 at first)", """
            told(0, 0) = 9
            set(0, 0, 0) = 9
            set(0, 0, 23) = 0
            set(0, 0, {-1 24}) = BAD
            told(0, 0) = 23
            """);
    }

    private static void people() {
        Script.run("PEOPLE (6 at most, numbered from 0)", """
            person(0, 0, 0) = 0
            person(1, 1, 1) = 1
            person(2, 2, 2) = 2
            person(3, 3, 3) = 3
            person(4, 4, 4) = 4
            person(5, 9, 7) = 5
            person(0, 0, 0) = FULL
            count(0) = 6
            told(5, 1) = 9
            told(5, 2) = 7
            told(5, 3) = 5
            told({-1 6}, 1) = BAD
            """);
        Script.run("have RIDDEN so many miles (0 .. 99999; 0)", """
            person(0, 0, 7) = 0
            person(0, 0, 0) = 1
            told({0 1}, 4) = 0
            road(0, 1, 99) = 0
            road(1, 7, 99) = 0
            read "pulls behind*(miles=99)*2; moods 1; enough 0;" = 1
            force(1) = 0
            """ + "goes(0, 1, 0) = 3960\n".repeat(25) + """
            told({0 1}, 4) = 99000
            road(1, 7, 0) = 99
            road(1, 2, 99) = 0
            road(2, 3, 99) = 0
            road(3, 4, 99) = 0
            road(4, 7, 8) = 0
            force(0) = 1
            set(1, 0, 9) = 0
            goes(0, 1, 1) = 305
            goes(0, 1, 1) = 305
            goes(1, 0, 1) = 305
            told({0 1}, 4) = 99915
            set(2, 0, 4) = 7
            road(4, 7, 83) = 8
            goes(0, 1, 7) = 83
            told({0 1}, 4) = 99998
            road(4, 7, 1) = 83
            goes(0, 1, 7) = 1
            told({0 1}, 4) = 99999
            goes(0, 1, 7) = 1
            told({0 1}, 4) = 99999
            count(2) = 199998
            """);
    }

    /** Of one of that KIND, NUMBER and what pulls tells: PULL in FRONT and behind. */
    private static void pull(String sentence, int kind, int number, String v, int hour, int inFront, int behind) {
        Script.run("PULL: " + sentence + " (" + v + ")", """
            person(%d, %d, 0) = 0
            person(0, 5, 0) = 1
            read "pulls %s; moods 50; enough 0;" = 1
            force(1) = 0
            set(0, 0, %d) = 9
            asks(0, 1, 3, 2, 0) = %d
            asks(1, 0, 3, 2, 1) = %d
            """.formatted(kind, number, v, hour, inFront, behind));
    }

    private static void pulls() {
        pull("RIDER: v", 0, 9, "0", 9, 0, 0);
        pull("RIDER: v", 0, 9, "99", 9, 99, 99);
        pull("CLERK: half (cut) of a RIDER's behind, in FRONT as a RIDER", 1, 9, "0", 9, 0, 0);
        pull("CLERK: half (cut) of a RIDER's behind, in FRONT as a RIDER", 1, 9, "1", 9, 1, 0);
        pull("CLERK: half (cut) of a RIDER's behind, in FRONT as a RIDER", 1, 9, "2", 9, 2, 1);
        pull("CLERK: half (cut) of a RIDER's behind, in FRONT as a RIDER", 1, 9, "99", 9, 99, 49);
        pull("STRONG: NUMBER more than a RIDER", 2, 0, "0", 9, 0, 0);
        pull("STRONG: NUMBER more than a RIDER", 2, 0, "99", 9, 99, 99);
        pull("STRONG: NUMBER more than a RIDER", 2, 9, "0-5", 9, 9, 9);
        pull("STRONG: NUMBER more than a RIDER", 2, 9, "100", 9, 108, 108);
        pull("MISTRESS: twice a CLERK's, if HOUR is below 12", 3, 9, "99", 0, 198, 98);
        pull("MISTRESS: twice a CLERK's, if HOUR is below 12", 3, 9, "99", 11, 198, 98);
        pull("MISTRESS: twice a CLERK's, if HOUR is below 12", 3, 9, "1", 11, 2, 0);
        pull("MISTRESS: else as a CLERK", 3, 9, "99", 12, 99, 49);
        pull("MISTRESS: else as a CLERK", 3, 9, "99", 23, 99, 49);
        pull("MISTRESS: else as a CLERK", 3, 9, "0", 23, 0, 0);
        pull("DEAD: 0 in FRONT, behind 10 more than a STRONG", 4, 0, "0", 9, 0, 10);
        pull("DEAD: 0 in FRONT, behind 10 more than a STRONG", 4, 9, "0", 9, 0, 19);
        pull("DEAD: 0 in FRONT, behind 10 more than a STRONG", 4, 9, "99", 9, 0, 118);
        pull("TIMID: 1", 5, 9, "0", 9, 1, 1);
        pull("TIMID: 1", 5, 0, "99", 9, 1, 1);
    }

    /** Of one of that KIND and NUMBER: MOOD, in FRONT as well as behind, and at each HOUR. */
    private static void mood(String sentence, int kind, int number, String v, int mood) {
        Script.run("MOOD: " + sentence + " (" + v + ")", """
            person(%d, %d, 0) = 0
            person(0, 5, 0) = 1
            read "pulls 50; moods %s; enough 0;" = 1
            force(1) = 0
            asks(0, 1, 3, 2, 2) = %d
            asks(1, 0, 3, 2, 3) = %d
            set(0, 0, 12) = 9
            asks(0, 1, 3, 2, 2) = %d
            """.formatted(kind, number, v, mood, mood, mood));
    }

    private static void moods() {
        mood("RIDER: v", 0, 9, "0", 0);
        mood("RIDER: v", 0, 9, "99", 99);
        for (int kind : new int[] {1, 3}) {
            String whose = kind == 1 ? "CLERK: 3 less than a RIDER (0, else the bound)" : "MISTRESS: as a CLERK, 0 at least";
            mood(whose, kind, 9, "0", 0);
            mood(whose, kind, 9, "2", 0);
            mood(whose, kind, 9, "3", 0);
            mood(whose, kind, 9, "4", 1);
            mood(whose, kind, 9, "99", 96);
            mood(whose, kind, 9, "102", 96);
        }
        mood("STRONG: as a RIDER", 2, 9, "0", 0);
        mood("STRONG: as a RIDER", 2, 9, "99", 99);
        mood("DEAD: NUMBER more than a STRONG", 4, 0, "0", 0);
        mood("DEAD: NUMBER more than a STRONG", 4, 9, "0-1", 9);
        mood("DEAD: NUMBER more than a STRONG", 4, 9, "100", 108);
        mood("TIMID: half (cut) of a RIDER's", 5, 9, "0", 0);
        mood("TIMID: half (cut) of a RIDER's", 5, 9, "1", 0);
        mood("TIMID: half (cut) of a RIDER's", 5, 9, "2", 1);
        mood("TIMID: half (cut) of a RIDER's", 5, 9, "99", 49);
    }

    /** Of one of that KIND and NUMBER the first of STEPS with ENOUGH (-1: never), by what enough tells. */
    private static void enough(String sentence, int kind, int number, String e, int first) {
        int ahead = first < 0 ? 40 : first - 1;
        String till = ahead < 0 ? "" : """
            asks(0, 1, 3, {0 %d}, 4) = 0
            asks(1, 0, 3, {0 %d}, 4) = 0
            """.formatted(ahead, ahead);
        String from = first < 0 ? "" : """
            asks(0, 1, 3, {%d %d 40}, 4) = 1
            asks(1, 0, 3, {%d %d 40}, 4) = 2
            """.formatted(first, first + 1, first, first + 1);
        Script.run("ENOUGH: " + sentence + " (" + e + ")", """
            person(%d, %d, 0) = 0
            person(4, 5, 0) = 1
            read "pulls 0; moods 0; enough %s;" = 1
            force(1) = 0
            """.formatted(kind, number, e) + till + from);
    }

    private static void enough() {
        enough("RIDER: if yes", 0, 3, "0", -1);
        enough("RIDER: if yes", 0, 3, "1", 0);
        enough("RIDER: if yes", 0, 3, "20=steps or 20<steps", 20);
        enough("enough telling yes, if it isn't 0", 0, 3, "-1", 0);
        enough("enough telling yes, if it isn't 0", 0, 3, "8192*8192*32", 0);
        enough("enough telling yes, if it isn't 0", 0, 3, "8192*8192*64", -1);
        for (int kind : new int[] {1, 3}) {
            String whose = kind == 1 ? "CLERK: if yes, or s is 9 or more" : "MISTRESS: as a CLERK";
            enough(whose, kind, 3, "0", 9);
            enough(whose, kind, 3, "1", 0);
            enough(whose, kind, 3, "5<steps", 6);
        }
        enough("STRONG: if yes, and s is above NUMBER", 2, 0, "1", 1);
        enough("STRONG: if yes, and s is above NUMBER", 2, 3, "1", 4);
        enough("STRONG: if yes, and s is above NUMBER", 2, 9, "1", 10);
        enough("STRONG: if yes, and s is above NUMBER", 2, 9, "19<steps", 20);
        enough("STRONG: if yes, and s is above NUMBER", 2, 0, "0", -1);
        enough("DEAD: never", 4, 0, "1", -1);
        enough("DEAD: never", 4, 9, "0", -1);
        enough("TIMID: if s is NUMBER or more", 5, 0, "0", 0);
        enough("TIMID: if s is NUMBER or more", 5, 1, "0", 1);
        enough("TIMID: if s is NUMBER or more", 5, 9, "1", 9);
        enough("TIMID: if s is NUMBER or more", 5, 9, "0", 9);
    }

    private static void tokens() {
        Script.run("TOKENS, each as long as can be", """
            read "pullsnumber;" = -100
            read "pulls 12 34;" = -109
            read "pulls 12number;" = -108
            read "pulls number12;" = -112
            read "pulls numbers;" = -106
            read "pulls 1or2and3;moods-1;enough(1)<2;" = 1
            """);
        Script.run("NUMBERS (as many digits as stand there, 4 at most)", """
            person(0, 0, 0) = 0
            person(0, 0, 0) = 1
            read "pulls 9999-9900;moods 0009;enough 0000;" = 1
            force(1) = 0
            asks(0, 1, 0, 0, 0) = 99
            asks(0, 1, 0, 0, 2) = 9
            asks(0, 1, 0, 0, 4) = 0
            """);
        Script.run("FAULT: also of a NUMBER that is too long", """
            read "pulls 10000;" = -106
            read "pulls 00000;" = -106
            read "pulls 1+99999" = -108
            read "pulls 99999number" = -106
            read "12345" = -100
            """);
        Script.run("blanks (32, 10) may stand between", """
            feed(10) = 1
            tape " pulls"
            feed(10) = 8
            tape " 1"
            feed(10) = 11
            tape ";moods 2; enough"
            feed(10) = 28
            tape "3"
            feed(32) = 30
            tape ";"
            feed(10) = 32
            text() = 1
            """);
        Script.run("FAULT: blanks stand between, not in the midst", """
            read "pu lls 1;" = -100
            read "pulls 1 2;" = -108
            read "pulls num ber;" = -106
            """);
        Script.run("FAULT: also of a WORD that is neither KEY nor NAME", """
            read "a" = -100
            read "pull 1;" = -100
            read "pulls hours;" = -106
            read "pulls 1 xor 2;" = -108
            read "pulls their;" = -106
            read "pulls 1;moods 1;enough 1; z" = -126
            """);
        Script.run("FAULT: of the first TOKEN that can't stand there", """
            read "enough 1;" = -100
            read "pulls 1;enough 1;" = -108
            read "pulls 1;moods 1;pulls 1;" = -116
            read "pulls 1;moods 1;enough 1;pulls" = -125
            read "pulls 1;moods 1;enough 1;;" = -125
            read "pulls pulls;" = -106
            read "pulls ;" = -106
            read "pulls 1 number" = -108
            read "pulls (1;" = -108
            read "pulls 1);" = -107
            read "pulls 1<2=3;" = -109
            read "pulls 1<not 2;" = -108
            read "pulls not;" = -109
            """);
    }

    /** Each byte behind "pulls 1": what can go on there, what can't, and what begins no TOKEN. */
    private static void bytesThatBeginNone() {
        for (int letter = 0; letter < 256; letter++) {
            boolean goesOn = letter == 10 || letter == 32 || letter >= '0' && letter <= '9' || ";+-*<=".indexOf(letter) >= 0;
            Script.run("FAULT: also of a byte that begins none", """
                tape "pulls 1"
                feed(%d) = 8
                text() = %d
                """.formatted(letter, goesOn ? -108 : -107));
            Script.run("FAULT: also of a byte that begins none, ahead of all", """
                feed(%d) = 1
                text() = %d
                """.formatted(letter, letter == 10 || letter == 32 ? -101 : -100));
        }
    }

    /** All beginnings of a TEXT: cut in a WORD, that is none; else the end is the FAULT. */
    private static void textsThatEndTooEarly() {
        String text = "pulls 10 + number - steps ; moods number ; enough 12 < steps ;";
        for (int size = 0; size < text.length(); size++) {
            String cut = text.substring(0, size);
            int word = size;
            while (word > 0 && Character.isLetter(cut.charAt(word - 1))) {
                word--;
            }
            boolean whole = word == size || !Character.isLetter(text.charAt(size));
            Script.run("FAULT: the text's size, if it ends too early", """
                read "%s" = %d
                """.formatted(cut, -100 - (whole ? size : word)));
        }
        Script.run("FAULT: the text's size, with the blanks at its end", "read \"pulls 1  \" = -109");
        Script.run("a TEXT that does not end too early", "read \"" + text + "\" = 1");
    }

    /** A TEXT whose pulls are those, and the FAULT there; or a TEXT (1). */
    private static void reads(String sentence, String e, int due) {
        Script.run(sentence, "read \"pulls %s;moods 1;enough 1;\" = %d".formatted(e, due));
    }

    private static void openOnes() {
        String sentence = "FAULT: a ( , a not, a - ahead of a ONE while 5 of these are open";
        reads(sentence, "(((((1)))))", 1);
        reads(sentence, "((((((1))))))", -111);
        reads(sentence, "not not not not not 1", 1);
        reads(sentence, "not not not not not not 1", -126);
        reads(sentence, "-----1", 1);
        reads(sentence, "------1", -111);
        reads(sentence, "(((((-1)))))", -111);
        reads(sentence, "(((((not 1)))))", -111);
        reads(sentence, "-----(1)", -111);
        reads(sentence, "not not not not not (1)", -126);
        reads(sentence, "not not not not not -1", -126);
        reads(sentence, "not (-(not 1))", 1);
        reads(sentence, "not (-(not -1))", -117);
        String ends = "FAULT: (a ( till its ) , not and - till what they belong to ends)";
        reads(ends, "(((((1)))))+(((((1)))))", 1);
        reads(ends, "(((((1)))))+((((((1))))))", -123);
        reads(ends, "-----1*-----1", 1);
        reads(ends, "-----1-----1", 1);
        reads(ends, "-----1------1", 1);
        reads(ends, "-----1-------1", -118);
        reads(ends, "not not not not not 1 and (((((1)))))", 1);
        reads(ends, "not not not not not 1<(1)", -128);
        reads(ends, "not not not not not 1 or not not not not not 1", 1);
        reads(ends, "((((1))+(1)))+(-(-(1)))", 1);
        Script.run("FAULT: the first, though 5 are open, is the end or what can't stand there", """
            read "pulls (((((" = -111
            read "pulls (((((;" = -111
            read "pulls (((((or" = -111
            read "pulls (((((12345" = -111
            """);
    }

    /** What pulls tell by E, of 0 in FRONT at 3 after 6 STEPS; NUMBER 7, the other's 5. */
    private static void tells(String sentence, String e, int due) {
        Script.run(sentence, """
            person(0, 7, 1) = 0
            person(0, 5, 2) = 1
            read "pulls %s; moods 0; enough 0;" = 1
            force(1) = 0
            asks(0, 1, 3, 6, 0) = %d
            """.formatted(e, due));
    }

    private static void wraps() {
        String sentence = "An E is an int (32 bits, wrapping)";
        tells(sentence + ": 2^31 by *", "(8192*8192*32<0)", 1);
        tells(sentence + ": the least less 1", "(0<8192*8192*32-1)", 1);
        tells(sentence + ": 2^32", "(8192*8192*64=0)", 1);
        tells(sentence + ": 2^32 and 7", "8192*8192*64+7", 7);
        tells(sentence + ": the most and 1", "((8192*8192*32-1)+1=8192*8192*32)", 1);
        tells(sentence + ": the least is below the most", "(8192*8192*32<8192*8192*32-1)", 1);
        tells(sentence + ": the most is not below the least", "(8192*8192*32-1<8192*8192*32)", 0);
        tells(sentence + ": the least, by -", "(-(8192*8192*32)=8192*8192*32)", 1);
        tells(sentence + ": 46341 * 46341, which is just above the most", "((9999*4+6345)*(9999*4+6345)<0)", 1);
        tells(sentence + ": 46340 * 46340, which is just below", "(0<(9999*4+6344)*(9999*4+6344))", 1);
        tells(sentence + ": the most is above the bound", "8192*8192*32-1", 99);
        tells(sentence + ": the least is below the bound", "8192*8192*32", 0);
    }

    private static void truths() {
        String sentence = "of or, and, not, <, = 1 or 0 (what is not 0 is true)";
        tells(sentence, "(5 or 0)", 1);
        tells(sentence, "(0 or -5)", 1);
        tells(sentence, "(0 or 0)", 0);
        tells(sentence, "(5 and -5)", 1);
        tells(sentence, "(5 and 0)", 0);
        tells(sentence, "(2 and 1)", 1);
        tells(sentence, "(not -1)", 0);
        tells(sentence, "(not 2)", 0);
        tells(sentence, "(not 0)", 1);
        tells(sentence, "(not not 8)", 1);
        tells(sentence, "(7<7)", 0);
        tells(sentence, "(7<8)", 1);
        tells(sentence, "(-8<-7)", 1);
        tells(sentence, "(7=7)", 1);
        tells(sentence, "(7=-7)", 0);
        tells(sentence + ", beside a SUM", "(1<2)+(2=2)+(not 0)+(3 or 4)", 4);
        tells("NOT: not NOT, or SUM, perhaps < or = and a SUM", "(not 3<2)", 1);
        tells("AND: NOT { and NOT }", "(1 and 1 and 0)", 0);
        tells("E: AND { or AND }", "1 or 0 and 0", 1);
        tells("SUM: TERM { + or - TERM }", "9-4-3", 2);
        tells("TERM: ONE { * ONE }", "2*3*4", 24);
        tells("ONE: - ONE", "5--4", 9);
        tells("ONE: ( E )", "5*(1 or 0)", 5);
    }

    private static void names() {
        Script.run("miles (999: there is no way), 0 at one's GOAL", """
            person(0, 7, 0) = 0
            person(0, 5, 7) = 1
            read "pulls (miles=999)*7+(miles=0)*5; moods 0; enough 0;" = 1
            force(1) = 0
            asks(0, 1, 3, 0, {0 1}) = 7
            asks(0, 1, 0, 0, 0) = 5
            asks(0, 1, 0, 0, 1) = 7
            asks(0, 1, 7, 0, 1) = 5
            """);
        Script.run("miles: how many it is at least by ROADS, 693 at most", LINE.replace(", 1) = 0", ", 99) = 0") + """
            person(0, 7, 7) = 0
            person(0, 5, 1) = 1
            read "pulls miles-600; moods miles-500; enough 0;" = 1
            force(1) = 0
            asks(0, 1, 0, 0, 0) = 93
            asks(0, 1, 0, 0, 2) = 99
            asks(0, 1, 7, 0, 3) = 94
            """);
        Script.run("steps (0 .. 40), hour (0 .. 23), behind (1, else 0), number and theirs (0 .. 9)", """
            person(0, 9, 0) = 0
            person(0, 0, 7) = 1
            read "pulls steps; moods hour; enough behind;" = 1
            read "pulls number; moods theirs; enough 0;" = 2
            force(1) = 0
            asks(0, 1, 3, 0, {0 1}) = 0
            asks(0, 1, 3, 40, {0 1}) = 40
            asks(0, 1, 3, 0, {2 3}) = 9
            set(0, 0, 23) = 9
            asks(0, 1, 3, 0, {2 3}) = 23
            set(0, 0, 0) = 23
            asks(0, 1, 3, 0, {2 3}) = 0
            asks(0, 1, 3, 0, 4) = 2
            asks(1, 0, 3, 0, 4) = 2
            force(2) = 1
            asks(0, 1, 3, 0, {0 3}) = 9
            asks(0, 1, 3, 0, {1 2}) = 0
            """);
    }

    private static void bounds() {
        for (String part : new String[] {"pulls", "moods"}) {
            String sentence = part + " (0 .. 99, else the bound)";
            String other = part.equals("pulls") ? "pulls %s; moods 7;" : "pulls 7; moods %s;";
            int what = part.equals("pulls") ? 0 : 2;
            for (String row : new String[] {"-1 0", "-9999 0", "0 0", "1 1", "98 98", "99 99", "100 99", "9999 99"}) {
                String e = row.substring(0, row.indexOf(' '));
                Script.run(sentence, """
                    person(0, 0, 0) = 0
                    person(0, 0, 0) = 1
                    read "%s enough 0;" = 1
                    force(1) = 0
                    asks(0, 1, 3, 0, {%d %d}) = %s
                    """.formatted(other.formatted(e), what, what + 1, row.substring(row.indexOf(' ') + 1)));
            }
        }
    }

    private static void theFirstRule() {
        Script.run("TEXT 0, at first THE RULE, is: pulls 10 + number - steps ; moods number ; enough 12 < steps ;", """
            count(5) = 0
            count(3) = 1
            person(0, 9, 0) = 0
            person(0, 0, 0) = 1
            asks(0, 1, 3, 0, 0) = 19
            asks(0, 1, 3, 0, 1) = 10
            asks(0, 1, 3, 18, 0) = 1
            asks(0, 1, 3, {19 20 40}, 0) = 0
            asks(0, 1, 3, {10 11 40}, 1) = 0
            asks(0, 1, 3, {0 40}, 2) = 9
            asks(0, 1, 3, {0 40}, 3) = 0
            asks(0, 1, 3, {0 12}, 4) = 0
            asks(0, 1, 3, {13 40}, 4) = 3
            """);
    }
}
