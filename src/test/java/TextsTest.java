/** Promises 7 to 9: THE TAPE, TEXTS with their FAULTS, and THE RULE. */
public final class TextsTest {
    private static TandemKeepsAPlace x;

    public static void main(String[] args) {
        feeds();
        reads();
        values();
        names();
        faults();
        opens();
        isFull();
        forces();
        Check.end();
    }

    private static void due(String call, long got, long want) {
        Check.due(call, got, want);
    }

    private static void feeds() {
        x = new TandemKeepsAPlace();
        due("byte 0", x.feed(0), 1);
        due("byte 255", x.feed(255), 2);
        due("byte 256", x.feed(256), Check.BAD);
        due("byte below 0", x.feed(-1), Check.BAD);
        due("two on the tape", x.count(4), 2);
        for (int i = 3; i <= 160; i++) {
            due("byte " + i, x.feed(32), i);
        }
        due("161", x.feed(32), Check.FULL);
        due("161, none such", x.feed(256), Check.BAD);
        due("160", x.count(4), 160);
        due("a fault at 0", x.text(), -100);
        due("empty", x.count(4), 0);
        due("and again", x.feed(97), 1);
    }

    private static void reads() {
        x = new TandemKeepsAPlace();
        due("a text", Check.read(x, "pulls 1; moods 2; enough 3;"), 1);
        due("the tape is empty", x.count(4), 0);
        due("two texts", x.count(3), 2);
        due("not yet the rule", x.count(5), 0);
        due("blanks and none", Check.read(x, "\n pulls\n1;moods 2 ;enough(3) ; \n"), 2);
        String longest = "pulls 1;moods 2;enough 0";
        due("160 bytes", Check.read(x, longest + "+1".repeat((159 - longest.length()) / 2) + " ;"), 3);
        due("four", x.count(3), 4);
    }

    /** What E is of one in front at place 0, whose goal is 9 miles off, behind it 13 in all. */
    private static void value(String e, int want) {
        x = new TandemKeepsAPlace();
        x.road(0, 1, 9);
        x.road(1, 2, 4);
        x.person(0, 7, 1);
        x.person(0, 5, 2);
        due(e, Check.read(x, "pulls 50+" + e + "; moods 0; enough 0;"), 1);
        x.force(1);
        due(e, x.asks(0, 1, 0, 6, 0) - 50, want);
    }

    private static void values() {
        value("1+2*3-4", 3);
        value("2*3+4", 10);
        value("9-4-3", 2);
        value("(2+3)*4", 20);
        value("- 4*3", -12);
        value("- -4", 4);
        value("-(1+2)*2", -6);
        value("(1<2)", 1);
        value("(2<2)", 0);
        value("(3=1+2)", 1);
        value("(3=4)", 0);
        value("(not 0)", 1);
        value("(not 5)", 0);
        value("(not not 5)", 1);
        value("(not 1<2)", 0);
        value("(not 2=3)", 1);
        value("(4 or 0)", 1);
        value("(0 or 0)", 0);
        value("(0 or -3)", 1);
        value("(4 and 2)", 1);
        value("(4 and 0)", 0);
        value("(0 and 0 or 1)", 1);
        value("(1 or 0 and 0)", 1);
        value("(0 or 0 or 7)", 1);
        value("(7 and 7 and 0)", 0);
        value("(0 and not 0)", 0);
        value("(4)", 4);
        value("(0007)", 7);
        value("9999*0+0", 0);
        value("(9999*9999*9999 = 9999*9999*9999)", 1);
        value("(9999*9999*9999<0)", 9999 * 9999 * 9999 < 0 ? 1 : 0);
        value("(9999*9999*9999*9999<0)", 9999 * 9999 * 9999 * 9999 < 0 ? 1 : 0);
        value("(4096*4096*128<0)", 1);
        value("4096*4096*256", 0);
        value("(4096*4096*128-1<0)", 0);
    }

    private static void names() {
        value("miles", 9);
        value("number", 7);
        value("steps", 6);
        value("hour", 9);
        value("behind", 0);
        value("theirs", 5);
        x = new TandemKeepsAPlace();
        x.person(0, 3, 0);
        x.person(0, 4, 7);
        Check.read(x, "pulls miles-950+behind*10+theirs; moods miles; enough 1;");
        x.force(1);
        due("999 where there is no way, behind 1, theirs of the one in front", x.asks(0, 1, 0, 0, 1), 62);
        due("0 at one's goal", x.asks(0, 1, 0, 0, 2), 0);
        due("the bound of 999", x.asks(0, 1, 0, 0, 3), 99);
    }

    private static void fault(String text, int place) {
        x = new TandemKeepsAPlace();
        due("'" + text + "'", Check.read(x, text), -100 - place);
        due("the tape is empty behind '" + text + "'", x.count(4), 0);
        due("no text came of '" + text + "'", x.count(3), 1);
    }

    private static void faults() {
        fault("", 0);
        fault("  ", 2);
        fault("moods 1;", 0);
        fault("pulls", 5);
        fault("pulls ;", 6);
        fault("pulls 1", 7);
        fault("pulls 1 ; ", 10);
        fault("pulls 1;moods 1;enough 1", 24);
        fault("pulls 1;moods 1;enough 1  ", 26);
        fault("pulls 1;moods 1;enough 1;;", 25);
        fault("pulls 1;moods 1;enough 1; pulls", 26);
        fault("pulls 1;moods 1;enough 1;?", 25);
        fault("pulls 1;moods 1;enough 1; 12345", 26);
        fault("pulls 1;moods 1;enough 1;\nword", 26);
        fault("pulls 1;enough 1;", 8);
        fault("pulls 1;pulls 1;", 8);
        fault("pulls1;moods 1;enough 1", 23);
        fault("pullsx 1;", 0);
        fault("pullsz 1;", 0);
        fault("pullsa 1;", 0);
        fault("zpulls 1;", 0);
        fault("pulls 19999;", 6);
        fault("pulls 90000;", 6);
        fault(";".repeat(160), 0);
        fault("(".repeat(160), 0);
        fault("pulls 1" + "+1".repeat(76) + "+", 160);
        fault("pulls 1" + "+1".repeat(76) + ";", 160);
        fault(" ".repeat(159) + "z", 159);
        fault("pulls " + "1".repeat(154), 6);
        fault("a".repeat(160), 0);
        fault("pull 1;", 0);
        fault(" pulls numbers;", 7);
        fault("pulls 12345;", 6);
        fault("pulls 00001;", 6);
        fault("pulls 1 12345;", 8);
        fault("pulls 1 2;", 8);
        fault("pulls 1+;", 8);
        fault("pulls +1;", 6);
        fault("pulls 1 - * 2;", 10);
        fault("pulls 1*;", 8);
        fault("pulls 1<2<3;", 9);
        fault("pulls 1=2<3;", 9);
        fault("pulls 1<not 2;", 8);
        fault("pulls 1+not 2;", 8);
        fault("pulls -not 2;", 7);
        fault("pulls 1 not 2;", 8);
        fault("pulls (1;", 8);
        fault("pulls (1));", 9);
        fault("pulls ();", 7);
        fault("pulls 1 or;", 10);
        fault("pulls or 1;", 6);
        fault("pulls 1 and and 1;", 12);
        fault("pulls moods;", 6);
        fault("pulls 1\t;", 7);
        fault("pulls 1\r;", 7);
        fault("pulls A;", 6);
        fault("pulls 1/2;", 7);
        fault("pulls 1>2;", 7);
        fault("pulls 1" + (char) 233 + ";", 7);
        fault("pulls 1" + (char) 0 + ";", 7);
        fault("pulls 1{", 7);
        fault("pulls 1`", 7);
        fault("pulls 1;moods 2;enough 9 9;", 25);
    }

    /** 5 may be open; a sixth is the FAULT, even where it is a sort of its own. */
    private static void opens() {
        x = new TandemKeepsAPlace();
        due("5 (", Check.read(x, "pulls (((((1)))));moods 1;enough 1;"), 1);
        due("5 not", Check.read(x, "pulls not not not not not 1;moods 1;enough 1;"), 2);
        due("5 -", Check.read(x, "pulls -----1;moods 1;enough 1;"), 3);
        due("5 of each sort, one behind the other",
            Check.read(x, "pulls (((((1)))))+(((((-(-1))))));moods 1;enough 1;"), -100 - 23);
        due("they end", Check.read(x, "pulls (((((1)))))+(((-(1))));moods -----1*-----1;enough not 1<2 and not not (--1);"), 4);
        fault("pulls ((((((1))))));", 11);
        fault("pulls not not not not not not 1;", 26);
        fault("pulls ------1;", 11);
        fault("pulls not (-(-1));moods", 23);
        fault("pulls not (-(-(1)));", 14);
        fault("pulls not ((not -(1)));", 17);
        fault("pulls not (-(--1));", 14);
        fault("pulls not (-((not not 1)));", 14);
        fault("pulls not not not not not 1<-1;", 28);
        fault("pulls not not not not not 1-1+2*3;", 34);
        fault("pulls not not not not not 1 and -----1;", 39);
        fault("pulls not not not not not 1 and not not not not not not 1;", 52);
        fault("pulls ----- 1 - -----1;", 23);
        fault("pulls ----- 1 - ------1;", 21);
        fault("pulls (((((-1", 11);
        fault("pulls (((((12345", 11);
    }

    private static void isFull() {
        x = new TandemKeepsAPlace();
        for (int i = 1; i <= 5; i++) {
            due("text " + i, Check.read(x, "pulls " + i + ";moods 0;enough 0;"), i);
        }
        due("six texts", x.count(3), 6);
        due("a seventh", Check.read(x, "pulls 1;moods 0;enough 0;"), Check.FULL);
        due("the tape stays", x.count(4), 25);
        x.feed('?');
        due("full ahead of a fault", x.text(), Check.FULL);
        due("the tape stays", x.count(4), 26);
        x.person(0, 0, 0);
        x.person(0, 0, 0);
        for (int i = 1; i <= 5; i++) {
            due("force " + i, x.force(i), i - 1);
            due("its pull", x.asks(0, 1, 0, 0, 0), i);
        }
    }

    private static void forces() {
        x = new TandemKeepsAPlace();
        due("text 0", x.force(0), 0);
        due("text 1", x.force(1), Check.BAD);
        due("text below 0", x.force(-1), Check.BAD);
        Check.read(x, "pulls 1;moods 0;enough 0");
        due("no text by a fault", x.force(1), Check.BAD);
        Check.read(x, "pulls 1;moods 0;enough 0;");
        due("now text 1", x.force(1), 0);
        due("the rule", x.count(5), 1);
        due("text 2", x.force(2), Check.BAD);
        due("text 0 again", x.force(0), 1);
        due("the rule", x.count(5), 0);
    }
}
