/** Promises 17 to 23: rides that were told, drawn places, images, counts. */
public final class SeenTest {
    private static TandemKeepsAPlace x;

    public static void main(String[] args) {
        tells();
        tellsAfterEnd();
        tellsByRule();
        tellsRefuses();
        tellsOfAllTwos();
        film();
        drawn();
        chance();
        image();
        imageOfRules();
        count();
        Check.end();
    }

    private static void due(String call, long got, long want) {
        Check.due(call, got, want);
    }

    private static void aLine() {
        x = new TandemKeepsAPlace();
        for (int place = 1; place < 8; place++) {
            x.road(place - 1, place, place);
        }
    }

    private static void tellsAll(int two, int from, int... wants) {
        for (int what = 0; what < wants.length; what++) {
            due("tells " + two + " from " + from + " what " + what, x.tells(0, two, from, what), wants[what]);
        }
    }

    private static void tells() {
        aLine();
        x.person(0, 4, 0);
        x.person(0, 6, 7);
        x.person(0, 2, 5);
        x.person(4, 0, 6);
        Check.fill(x, 0, 0, 2, 3, 4);
        int allHours = (1 << 24) - 1;
        tellsAll(1, 2, -1, 0b1010, 1 << 0 | 1 << 2 | 1 << 4, 0b1111100000, 0b11110000, allHours, 1);
        tellsAll(2, 2, 1, 0b1010, 1 << 4, 0b1111100000, 0, 0, 0);
        tellsAll(12, 2, -1, 0b1101, 63, 1023, 255, allHours, 1);
        Check.fill(x, 0, 2, 2, 3, 4, 6);
        tellsAll(1, 2, 3, 0, 0, 0, 0, 0, 0);
        Check.fill(x, 0, 1, 3);
        tellsAll(1, 2, 0, 0, 0, 0, 0, 0, 0);
        Check.fill(x, 0, 2);
        tellsAll(1, 2, -1, 0b1110, 63, 1023, 255, allHours, 1);
        Check.fill(x, 0, 2, 2, 3, 256 + 4);
        due("an int is more than its lowest 8 bits", x.tells(0, 1, 2, 0), 2);
        Check.fill(x, 0, 0, 2, 3, 256 + 4);
        due("a byte is not", x.tells(0, 1, 2, 0), -1);
        due("all is as it was", x.told(1, 1) * 100 + x.told(1, 2) * 10 + x.told(1, 3), 670);
        due("hour is as it was", x.told(0, 0), 9);
        due("the rule is as it was", x.count(5), 0);
        due("none ridden", x.count(2), 0);
    }

    private static void tellsAfterEnd() {
        aLine();
        x.person(0, 9, 2);
        x.person(0, 0, 7);
        int[] row = new int[20];
        for (int i = 0; i < 20; i++) {
            row[i] = Math.min(i, 2);
        }
        Check.fill(x, 0, 0, row);
        due("behind its end where it ended", x.tells(0, 1, 0, 0), -1);
        x.cell(0, 19, 3);
        due("the last is otherwise", x.tells(0, 1, 0, 0), 19);
        x.cell(0, 3, -1);
        due("the first that is otherwise", x.tells(0, 1, 0, 0), 3);
    }

    private static void tellsByRule() {
        aLine();
        x.person(3, 3, 7);
        x.person(0, 5, 0);
        Check.read(x, "pulls 10+theirs; moods 0; enough 1;");
        Check.read(x, "pulls hour; moods behind*7; enough 0;");
        Check.fill(x, 0, 0, 3, 2);
        due("texts: none, as she is twice as strong", x.tells(0, 1, 3, 6), 0b000);
        Check.fill(x, 0, 0, 3, 4);
        due("texts: not 1, by which both have enough", x.tells(0, 1, 3, 6), 0b101);
        x.force(2);
        due("hours: from 7 till 11", x.tells(0, 1, 3, 5), 0xf80);
        Check.fill(x, 0, 0, 3, 2);
        due("hours: all others", x.tells(0, 1, 3, 5), 0xfff07f);
        Check.fill(x, 0, 0, 3, 3);
        due("texts: both have enough", x.tells(0, 1, 3, 6), 0b010);
        x.force(1);
        due("numbers of who is behind are theirs of who is in front", x.tells(0, 1, 3, 3), 0b1111111111);
        Check.read(x, "pulls theirs*10; moods 0; enough 0;");
        x.force(3);
        x.set(0, 0, 14);
        Check.fill(x, 0, 0, 3, 4);
        due("theirs", x.tells(0, 1, 3, 3), 0b1111111000);
        due("a mistress behind: hours below 12", x.tells(0, 10, 3, 5), 0xfff);
        due("the rule stays", x.count(5), 3);
        due("hour stays", x.told(0, 0), 14);
    }

    private static void tellsRefuses() {
        x = new TandemKeepsAPlace();
        x.person(0, 0, 0);
        x.person(0, 0, 0);
        due("sheet 4", x.tells(4, 1, 0, 0), Check.BAD);
        due("sheet below 0", x.tells(-1, 1, 0, 0), Check.BAD);
        due("missing", x.tells(0, 1, 0, 0), Check.MISSING);
        due("two ahead of missing", x.tells(0, 11, 0, 0), Check.BAD);
        due("place ahead of missing", x.tells(0, 1, 8, 0), Check.BAD);
        due("what ahead of missing", x.tells(0, 1, 0, 7), Check.BAD);
        x.sheet(0, 0, 21);
        due("more than 20", x.tells(0, 1, 0, 0), Check.BAD);
        x.sheet(0, 0, 20);
        due("20", x.tells(0, 1, 0, 0), -1);
        due("no such two", x.tells(0, 2, 0, 0), Check.BAD);
        due("no such two, 100", x.tells(0, 100, 0, 0), Check.BAD);
        due("two below 0", x.tells(0, -1, 0, 0), Check.BAD);
        due("two below 0, -10", x.tells(0, -10, 0, 0), Check.BAD);
        due("one and the same", x.tells(0, 0, 0, 0), Check.BAD);
        due("place below 0", x.tells(0, 1, -1, 0), Check.BAD);
        due("what below 0", x.tells(0, 1, 0, -1), Check.BAD);
    }

    private static void film() {
        aLine();
        x.person(0, 9, 3);
        x.person(0, 0, 7);
        due("film", x.film(2, 1, 0, 6), 6);
        due("it tells so", x.tells(2, 1, 0, 0), -1);
        due("it has 6", x.cell(2, 6, 0), Check.OUTSIDE);
        x.sheet(0, 0, 6);
        due("bytes", x.copy(2, 0, 0, 0, 6), 6);
        Check.fill(x, 1, 0, 0, 1, 2, 3, 3, 3);
        due("as told by hand", x.tells(1, 1, 0, 0), -1);
        due("both rode, truly", x.count(2), 12);
        due("one rode", x.told(0, 4), 6);
        due("the other rode", x.told(1, 4), 6);
        due("film of none", x.film(2, 10, 3, 0), 0);
        due("none in it", x.cell(2, 0, 0), Check.OUTSIDE);
        due("film of 20", x.film(3, 1, 1, 20), 20);
        due("20 in it", x.tells(3, 1, 1, 0), -1);
        long ridden = x.count(2);
        due("21", x.film(2, 1, 0, 21), Check.BAD);
        due("below 0", x.film(2, 1, 0, -1), Check.BAD);
        due("sheet 4", x.film(4, 1, 0, 1), Check.BAD);
        due("sheet below 0", x.film(-1, 1, 0, 1), Check.BAD);
        due("one and the same", x.film(2, 0, 0, 1), Check.BAD);
        due("no such two", x.film(2, 12, 0, 1), Check.BAD);
        due("two below 0", x.film(2, -1, 0, 1), Check.BAD);
        due("from 8", x.film(2, 1, 8, 1), Check.BAD);
        due("from below 0", x.film(2, 1, -1, 1), Check.BAD);
        due("none in it yet", x.cell(2, 0, 0), Check.OUTSIDE);
        due("nobody rode", x.count(2), ridden);
    }

    /** The GOAL of one of PEOPLE by a SEED. */
    private static int drawnGoal(int seed, int one) {
        int z = seed;
        for (int i = 0; i <= one; i++) {
            z = z * 1103515245 + 12345;
        }
        return (z >>> 9) % 8;
    }

    private static void drawn() {
        int[] seeds = {0, 1, 7, 12345, -1, Integer.MAX_VALUE, Integer.MIN_VALUE, 987654321};
        for (int seed : seeds) {
            aLine();
            x.person(0, 1, 1);
            x.person(0, 2, 2);
            x.person(0, 9, 3);
            int goal = drawnGoal(seed, 2);
            due("drawn " + seed, x.drawn(seed, 12, 4), x.far(4, goal));
            due("in front", x.drawn(seed, 20, 0), x.far(0, goal));
            due("who is second steers", x.drawn(seed, 1, 0), x.far(0, drawnGoal(seed, 1)));
            for (int one = 0; one < 3; one++) {
                due("goal stays " + one, x.told(one, 2), one + 1);
            }
        }
        due("none rode", x.count(2), 0);
        aLine();
        for (int one = 0; one < 6; one++) {
            x.person(0, one, 0);
        }
        for (int two = 0; two < 60; two++) {
            int stronger = Math.max(two / 10, two % 10);
            boolean none = two / 10 == two % 10 || two % 10 > 5;
            due("drawn by two " + two, x.drawn(77, two, 3), none ? Check.BAD : x.far(3, drawnGoal(77, stronger)));
        }
        due("one and the same", x.drawn(0, 11, 0), Check.BAD);
        due("no such two", x.drawn(0, 6, 0), Check.BAD);
        due("two below 0", x.drawn(0, -1, 0), Check.BAD);
        due("from 8", x.drawn(0, 1, 8), Check.BAD);
        due("from below 0", x.drawn(0, 1, -1), Check.BAD);
    }

    private static void chance() {
        int[] seeds = {0, 5, -3, Integer.MAX_VALUE - 4, Integer.MAX_VALUE, 424242};
        for (int seed : seeds) {
            aLine();
            x.person(0, 0, 1);
            x.person(0, 5, 2);
            for (int m = 1; m <= 20; m++) {
                long good = 0;
                for (int i = 0; i < m; i++) {
                    good += drawnGoal(seed + i, 0) == drawnGoal(seed + i, 1) ? 1 : 0;
                }
                long above = x.chance(seed, m, 1, 0);
                long below = x.chance(seed, m, 1, 1);
                due("as many", above * m, good * below);
                due("lowest terms", java.math.BigInteger.valueOf(above).gcd(java.math.BigInteger.valueOf(below)).longValue(), 1);
                due("all of the stronger", x.chance(seed, m, 10, 0), 1);
                due("of one", x.chance(seed, m, 10, 1), 1);
            }
            due("goals stay", x.told(0, 2) * 10 + x.told(1, 2), 12);
        }
        long no = -4611686018427387904L;
        due("m 0", x.chance(0, 0, 1, 0), no);
        due("m below 0", x.chance(0, -1, 1, 0), no);
        due("m 21", x.chance(0, 21, 1, 0), no);
        due("one and the same", x.chance(0, 1, 11, 0), no);
        due("no such two", x.chance(0, 1, 2, 0), no);
        due("two below 0", x.chance(0, 1, -1, 0), no);
        due("part 2", x.chance(0, 1, 1, 2), no);
        due("part below 0", x.chance(0, 1, 1, -1), no);
        chanceFromPlace0();
    }

    /** With no ROADS it ends at 0, and that is the goal of who is in front by some seeds alone. */
    private static void chanceFromPlace0() {
        x = new TandemKeepsAPlace();
        x.person(0, 9, 1);
        x.person(0, 5, 2);
        int good = 0;
        for (int seed = 100; seed < 120; seed++) {
            good += drawnGoal(seed, 0) == 0 ? 1 : 0;
        }
        due("some", good > 0 && good < 20 ? 1 : 0, 1);
        due("from place 0", x.chance(100, 20, 1, 0) * 20, good * x.chance(100, 20, 1, 1));
        for (int seed = 100; seed < 120; seed++) {
            boolean is = drawnGoal(seed, 0) == 0;
            due("one seed " + seed, x.chance(seed, 1, 1, 0), is ? 1 : 0);
            due("none of 1 is 0 of 1", x.chance(seed, 1, 1, 1), 1);
        }
    }

    /** The greater is the stronger, so each two would ride to the goal of the greater. */
    private static void tellsOfAllTwos() {
        aLine();
        for (int one = 0; one < 6; one++) {
            x.person(0, one, one + 1);
        }
        Check.fill(x, 3, 0, 3, 4, 5, 5);
        for (int two = 0; two < 60; two++) {
            boolean none = two / 10 == two % 10 || two % 10 > 5;
            int goal = Math.max(two / 10, two % 10) + 1;
            int first = goal == 5 ? -1 : goal == 4 ? 2 : goal == 6 ? 3 : 1;
            due("first of " + two, x.tells(3, two, 3, 0), none ? Check.BAD : first);
            int behind = two / 10 == 4 ? 0b1111 : two / 10 < 4 ? 0b10000 : 0;
            due("people of " + two, x.tells(3, two, 3, 1), none ? Check.BAD : behind);
            if (!none) {
                due("film of " + two, x.film(2, two, 3, 4), 4);
                due("film tells " + two, x.tells(2, two, 3, 0), -1);
                due("not as the other", x.copy(2, 0, 3, 0, 4), 4);
                due("by a copy", x.tells(3, two, 3, 0), -1);
                Check.fill(x, 3, 0, 3, 4, 5, 5);
            }
        }
    }

    private static void image() {
        aLine();
        due("no image", x.back(), Check.STATE);
        x.person(0, 9, 3);
        x.person(2, 0, 7);
        x.goes(0, 1, 0);
        x.set(0, 0, 20);
        due("image", x.image(), 2);
        x.road(0, 1, 0);
        x.road(0, 7, 1);
        x.set(0, 0, 21);
        x.set(1, 0, 1);
        x.set(2, 1, 1);
        x.goes(0, 1, 2);
        x.person(5, 5, 5);
        x.sheet(0, 0, 3);
        x.feed(40);
        due("back", x.back(), 2);
        due("people that came are gone", x.told(2, 1), Check.BAD);
        due("road", x.road(0, 1, 1), 1);
        due("road that came", x.road(0, 7, 0), 0);
        due("ways", x.far(0, 7), 28);
        due("hour", x.told(0, 0), 20);
        due("number", x.told(0, 1), 9);
        due("goal", x.told(1, 2), 7);
        due("ridden", x.told(0, 4), 6);
        due("ridden by all", x.count(2), 12);
        due("sheets are as they are", x.cell(0, 2, 1), 1);
        due("the tape is as it is", x.count(4), 1);
        due("another comes", x.person(4, 6, 2), 2);
        due("its kind", x.told(2, 3), 4);
        due("it has not ridden", x.told(2, 4), 0);
        due("back again", x.back(), 2);
        due("a newer image", x.image(), 2);
        x.person(1, 1, 1);
        due("a newer image", x.image(), 3);
        x.set(1, 2, 7);
        due("back to the newer", x.back(), 3);
        due("its number", x.told(2, 1), 1);
    }

    private static void imageOfRules() {
        x = new TandemKeepsAPlace();
        due("image of nobody", x.image(), 0);
        Check.read(x, "pulls 1; moods 1; enough 1;");
        x.force(1);
        x.person(0, 0, 0);
        due("back to nobody", x.back(), 0);
        due("the rule goes back", x.count(5), 0);
        due("texts stay", x.count(3), 2);
        due("it can be the rule again", x.force(1), 0);
        due("nobody is there", x.told(0, 4), Check.BAD);
    }

    private static void count() {
        x = new TandemKeepsAPlace();
        x.road(0, 1, 1);
        x.road(2, 3, 99);
        x.road(3, 2, 98);
        x.road(4, 5, 0);
        due("roads", x.count(1), 2);
        x.person(0, 0, 1);
        x.person(0, 0, 0);
        due("people", x.count(0), 2);
        x.goes(0, 1, 0);
        due("ridden", x.count(2), 2);
        Check.feed(x, "pulls");
        due("tape", x.count(4), 5);
        due("what 6", x.count(6), Check.BAD);
        due("what below 0", x.count(-1), Check.BAD);
    }
}
