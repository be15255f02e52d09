/** Promises 1 to 6: a new object, roads, people, and what is asked of two. */
public final class PeopleTest {
    private static TandemKeepsAPlace x;

    public static void main(String[] args) {
        aNewObject();
        set();
        road();
        person();
        told();
        rules();
        pullsByKind();
        moodsByKind();
        enoughByKind();
        steers();
        asksRefuses();
        Check.end();
    }

    private static void due(String call, long got, long want) {
        Check.due(call, got, want);
    }

    private static void aNewObject() {
        x = new TandemKeepsAPlace();
        due("nobody", x.count(0), 0);
        due("no roads", x.count(1), 0);
        due("none ridden", x.count(2), 0);
        due("text 0 alone", x.count(3), 1);
        due("an empty tape", x.count(4), 0);
        due("text 0 is the rule", x.count(5), 0);
        due("hour is 9", x.told(0, 0), 9);
        due("no image", x.back(), Check.STATE);
        for (int sheet = 0; sheet < 4; sheet++) {
            due("sheet " + sheet + " is missing", x.cell(sheet, 0, 0), Check.MISSING);
        }
        for (int one = 0; one < 8; one++) {
            for (int other = 0; other < 8; other++) {
                due("far " + one + other, x.far(one, other), one == other ? 0 : -1);
            }
        }
        due("no person 0", x.told(0, 1), Check.BAD);
    }

    private static void set() {
        x = new TandemKeepsAPlace();
        due("set hour, of does not matter", x.set(0, -7, 23), 9);
        due("set hour 0", x.set(0, 99, 0), 23);
        due("hour below 0", x.set(0, 0, -1), Check.BAD);
        due("hour 24", x.set(0, 0, 24), Check.BAD);
        due("hour stays", x.told(0, 0), 0);
        due("number of nobody", x.set(1, 0, 0), Check.BAD);
        x.person(2, 4, 5);
        due("number", x.set(1, 0, 9), 4);
        due("number again", x.set(1, 0, 0), 9);
        due("number 10", x.set(1, 0, 10), Check.BAD);
        due("number below 0", x.set(1, 0, -1), Check.BAD);
        due("number stays", x.told(0, 1), 0);
        due("goal", x.set(2, 0, 7), 5);
        due("goal 8", x.set(2, 0, 8), Check.BAD);
        due("goal below 0", x.set(2, 0, -1), Check.BAD);
        due("goal stays", x.told(0, 2), 7);
        due("of 1", x.set(1, 1, 0), Check.BAD);
        due("of below 0", x.set(2, -1, 0), Check.BAD);
        due("what 3", x.set(3, 0, 0), Check.BAD);
        due("what below 0", x.set(-1, 0, 0), Check.BAD);
        due("kind stays", x.told(0, 3), 2);
    }

    private static void road() {
        x = new TandemKeepsAPlace();
        due("road", x.road(0, 7, 99), 0);
        due("the same from there", x.road(7, 0, 1), 99);
        due("far by it", x.far(0, 7), 1);
        due("none again", x.road(0, 7, 0), 1);
        due("far without", x.far(0, 7), -1);
        due("none was", x.road(0, 7, 0), 0);
        due("place 8", x.road(8, 0, 1), Check.BAD);
        due("other place 8", x.road(0, 8, 1), Check.BAD);
        due("place below 0", x.road(-1, 0, 1), Check.BAD);
        due("other below 0", x.road(0, -1, 1), Check.BAD);
        due("one and the same", x.road(3, 3, 1), Check.BAD);
        due("100 miles", x.road(0, 1, 100), Check.BAD);
        due("miles below 0", x.road(0, 1, -1), Check.BAD);
        due("no road came", x.count(1), 0);
    }

    private static void person() {
        x = new TandemKeepsAPlace();
        due("kind 6", x.person(6, 0, 0), Check.BAD);
        due("kind below 0", x.person(-1, 0, 0), Check.BAD);
        due("number 10", x.person(0, 10, 0), Check.BAD);
        due("number below 0", x.person(0, -1, 0), Check.BAD);
        due("goal 8", x.person(0, 0, 8), Check.BAD);
        due("goal below 0", x.person(0, 0, -1), Check.BAD);
        for (int i = 0; i < 6; i++) {
            due("person " + i, x.person(i, 9 - i, 7 - i), i);
        }
        due("a seventh", x.person(0, 0, 0), Check.FULL);
        due("a seventh that is none such", x.person(0, 0, 8), Check.BAD);
        due("six", x.count(0), 6);
        for (int i = 0; i < 6; i++) {
            due("number of " + i, x.told(i, 1), 9 - i);
            due("goal of " + i, x.told(i, 2), 7 - i);
            due("kind of " + i, x.told(i, 3), i);
            due("ridden by " + i, x.told(i, 4), 0);
        }
    }

    private static void told() {
        x = new TandemKeepsAPlace();
        x.person(1, 2, 3);
        due("hour of nobody", x.told(77, 0), 9);
        due("of 1", x.told(1, 1), Check.BAD);
        due("of below 0", x.told(-1, 5), Check.BAD);
        due("what 6", x.told(0, 6), Check.BAD);
        due("what below 0", x.told(0, -1), Check.BAD);
        due("nobody to steer", x.told(0, 5), 0);
        x.person(0, 0, 0);
        x.road(0, 1, 6);
        x.goes(1, 0, 1);
        due("ridden", x.told(0, 4), 6);
        due("ridden, in front", x.told(1, 4), 6);
    }

    private static void rules() {
        x = new TandemKeepsAPlace();
        x.person(0, 0, 4);
        x.person(0, 1, 4);
        x.person(0, 0, 4);
        due("like ones: who is in front", x.told(0, 5), 0);
        due("stronger than both", x.told(1, 5), 0b101);
        x.road(4, 5, 2);
        due("a rule that tells of miles", Check.read(x, "pulls miles*behind; moods 0; enough 0;"), 1);
        x.force(1);
        due("not at one's goal, where all pull alike", x.told(0, 5), 0);
        Check.read(x, "pulls miles*behind+1*behind; moods 0; enough 0;");
        x.force(2);
        due("at each place", x.told(0, 5), 0b110);
        Check.read(x, "pulls behind*(1-steps); moods 0; enough 0;");
        x.force(3);
        due("at step 0", x.told(2, 5), 0b011);
    }

    /** Two of each kind: 0 .. 5 of number 3; the rule tells 20 for pulls, 11 for moods. */
    private static void allKinds(String text) {
        x = new TandemKeepsAPlace();
        for (int kind = 0; kind < 6; kind++) {
            x.person(kind, 3, 0);
        }
        due("the rule", Check.read(x, text), 1);
        x.force(1);
    }

    private static void pullsByKind() {
        allKinds("pulls 21; moods 11; enough 0;");
        int[] inFront = {21, 21, 24, 42, 0, 1};
        int[] behind = {21, 10, 24, 20, 34, 1};
        for (int kind = 0; kind < 6; kind++) {
            int other = (kind + 1) % 6;
            due("pull in front of kind " + kind, x.asks(kind, other, 0, 0, 0), inFront[kind]);
            due("pull behind of kind " + kind, x.asks(other, kind, 0, 0, 1), behind[kind]);
        }
        x.set(0, 0, 11);
        due("a mistress at 11", x.asks(3, 0, 0, 0, 0), 42);
        x.set(0, 0, 12);
        due("a mistress at 12", x.asks(3, 0, 0, 0, 0), 21);
        due("a mistress behind at 12", x.asks(0, 3, 0, 0, 1), 10);
        allKinds("pulls 100; moods 100; enough 0;");
        due("pulls 99 at most", x.asks(0, 1, 0, 0, 0), 99);
        due("moods 99 at most", x.asks(0, 1, 0, 0, 2), 99);
        due("a mistress' 198", x.asks(3, 1, 0, 0, 0), 198);
        due("one dead behind, 112", x.asks(0, 4, 0, 0, 1), 112);
        allKinds("pulls -1; moods -1; enough 0;");
        due("pulls 0 at least", x.asks(0, 1, 0, 0, 0), 0);
        due("moods 0 at least", x.asks(0, 1, 0, 0, 2), 0);
        due("a strong one's pull of 0", x.asks(2, 1, 0, 0, 0), 3);
    }

    private static void moodsByKind() {
        allKinds("pulls 21; moods 11; enough 0;");
        int[] moods = {11, 8, 11, 8, 14, 5};
        for (int kind = 0; kind < 6; kind++) {
            int other = (kind + 1) % 6;
            due("mood in front of kind " + kind, x.asks(kind, other, 0, 0, 2), moods[kind]);
            due("mood behind of kind " + kind, x.asks(other, kind, 0, 0, 3), moods[kind]);
        }
        allKinds("pulls 21; moods 2; enough 0;");
        due("a clerk's 0 at least", x.asks(1, 0, 0, 0, 2), 0);
        due("a mistress' 0 at least", x.asks(3, 0, 0, 0, 2), 0);
    }

    /** Of each kind on an object of its own, as none is good for more than 512 calls. */
    private static void enoughByKind() {
        int[] first = {-1, 9, -1, 9, -1, 3};
        int[] soon = {0, 0, 4, 0, -1, 3};
        for (int kind = 0; kind < 6; kind++) {
            allKinds("pulls 1; moods 1; enough 0;");
            enoughFrom(kind, first[kind]);
            allKinds("pulls 1; moods 1; enough 7-9;");
            enoughFrom(kind, soon[kind]);
        }
    }

    private static void enoughFrom(int kind, int first) {
        int other = kind == 4 ? 0 : 4;
        for (int s = 0; s <= 40; s++) {
            boolean has = first >= 0 && s >= first;
            due("kind " + kind + " after " + s, x.asks(kind, other, 0, s, 4) & 1, has ? 1 : 0);
            due("kind " + kind + " behind after " + s, x.asks(other, kind, 0, s, 4) >> 1, has ? 1 : 0);
        }
    }

    private static void steers() {
        x = new TandemKeepsAPlace();
        x.person(0, 4, 0);
        x.person(2, 2, 0);
        due("pull and mood together: 18 and 16", x.asks(1, 0, 0, 0, 5), 0);
        x.set(1, 0, 2);
        due("14 and 16", x.asks(0, 1, 0, 0, 5), 1);
        x.set(1, 0, 3);
        due("16 and 16, in front 0", x.asks(0, 1, 0, 0, 5), 0);
        due("16 and 16, in front 1", x.asks(1, 0, 0, 0, 5), 1);
        due("one's own number and steps", x.asks(0, 1, 0, 5, 0), 8);
        due("pulls 0 at least after 40", x.asks(0, 1, 0, 40, 0), 0);
    }

    private static void asksRefuses() {
        x = new TandemKeepsAPlace();
        x.person(0, 0, 0);
        due("no such behind", x.asks(0, 1, 0, 0, 0), Check.BAD);
        x.person(0, 0, 0);
        due("one and the same", x.asks(1, 1, 0, 0, 0), Check.BAD);
        due("front below 0", x.asks(-1, 1, 0, 0, 0), Check.BAD);
        due("behind below 0", x.asks(0, -1, 0, 0, 0), Check.BAD);
        due("front 2", x.asks(2, 1, 0, 0, 0), Check.BAD);
        due("at 8", x.asks(0, 1, 8, 0, 0), Check.BAD);
        due("at below 0", x.asks(0, 1, -1, 0, 0), Check.BAD);
        due("s 41", x.asks(0, 1, 0, 41, 0), Check.BAD);
        due("s below 0", x.asks(0, 1, 0, -1, 0), Check.BAD);
        due("what 6", x.asks(0, 1, 0, 0, 6), Check.BAD);
        due("what below 0", x.asks(0, 1, 0, 0, -1), Check.BAD);
    }
}
