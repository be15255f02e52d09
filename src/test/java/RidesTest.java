/** Promises 10 to 16: rides, and what would be best. */
public final class RidesTest {
    private static final String EVEN = "pulls 1; moods 0; enough 0;";

    private static TandemKeepsAPlace x;

    public static void main(String[] args) {
        aRide();
        bothHaveEnough();
        endsAtOnce();
        takesTurns();
        fortySteps();
        aPlaceTwice();
        textZeroHasEnough();
        firstOfLikeOnes();
        rideRefuses();
        goes();
        far();
        best();
        from();
        together();
        togetherOfFew();
        shut();
        Check.end();
    }

    private static void due(String call, long got, long want) {
        Check.due(call, got, want);
    }

    /** 0 - 1 - 2 - 3 - 4 - 5 - 6 - 7, each so many miles as the greater place. */
    private static void aLine() {
        x = new TandemKeepsAPlace();
        for (int place = 1; place < 8; place++) {
            x.road(place - 1, place, place);
        }
    }

    private static void rule(String text) {
        int number = Check.read(x, text);
        due("text " + number + " is read", number > 0 ? 1 : 0, 1);
        x.force(number);
    }

    private static void rideAll(int front, int behind, int from, int... wants) {
        for (int what = 0; what < wants.length; what++) {
            due("ride " + front + behind + " from " + from + " what " + what, x.ride(front, behind, from, what), wants[what]);
        }
    }

    private static void aRide() {
        aLine();
        x.person(0, 5, 3);
        x.person(0, 1, 7);
        rideAll(0, 1, 0, 3, 3, 6, 0, 0b1111, 3);
        rideAll(1, 0, 0, 3, 3, 6, 0, 0b1111, 0);
        int[] places = {0, 1, 2, 3};
        for (int s = 0; s <= 40; s++) {
            due("behind " + s, x.ride(0, 1, 0, 10 + s), places[Math.min(s, 3)]);
        }
        due("nothing was ridden", x.count(2), 0);
    }

    private static void bothHaveEnough() {
        aLine();
        x.person(5, 2, 7);
        x.person(5, 4, 0);
        rule(EVEN);
        rideAll(0, 1, 1, 5, 4, 14, 0, 0b111110, 4);
        rideAll(1, 0, 6, 2, 4, 18, 0, 0b1111100, 4);
        x.set(1, 1, 0);
        rideAll(0, 1, 1, 3, 2, 5, 0, 0b1110, 2);
        x.set(1, 0, 0);
        rideAll(0, 1, 1, 1, 0, 0, 0, 0b10, 0);
    }

    private static void endsAtOnce() {
        aLine();
        x.person(0, 5, 3);
        x.person(0, 1, 7);
        rideAll(0, 1, 3, 3, 0, 0, 0, 0b1000, 0);
        rideAll(0, 1, 7, 3, 4, 22, 0, 0b11111000, 4);
        x.road(3, 4, 0);
        rideAll(0, 1, 4, 4, 0, 0, 0, 0b10000, 0);
        due("behind 40", x.ride(0, 1, 4, 50), 4);
    }

    /** Who is behind steers after an odd number of steps, so that they go to and fro. */
    private static void takesTurns() {
        aLine();
        x.person(0, 0, 7);
        x.person(0, 0, 0);
        rule("pulls 0-behind*0+behind*(steps=1 or steps=3)*2; moods 1; enough steps=4;");
        rideAll(0, 1, 2, 2, 4, 12, 1, 0b1100, 2);
        due("behind 1", x.ride(0, 1, 2, 11), 3);
        due("behind 2", x.ride(0, 1, 2, 12), 2);
        due("behind 3", x.ride(0, 1, 2, 13), 3);
        due("behind 5", x.ride(0, 1, 2, 15), 2);
    }

    private static void fortySteps() {
        aLine();
        x.person(0, 0, 7);
        x.person(0, 0, 0);
        rule("pulls behind*(5<miles)*2; moods 1; enough 0;");
        due("steps", x.ride(0, 1, 2, 1), 40);
        due("long", x.ride(0, 1, 2, 2), 120);
        due("round", x.ride(0, 1, 2, 3), 1);
        due("places", x.ride(0, 1, 2, 4), 0b1100);
        due("in front steers", x.ride(0, 1, 2, 5), 20);
        due("ends", x.ride(0, 1, 2, 0), 2);
        due("behind 39", x.ride(0, 1, 2, 49), 3);
        due("behind 40", x.ride(0, 1, 2, 50), 2);
        rule("pulls behind*(5<miles or 38<steps)*2; moods 1; enough 0;");
        due("a place at the last step alone", x.ride(0, 1, 2, 4), 0b1100);
        rule("pulls behind*(5<miles and steps<38)*2; moods 1; enough 0;");
        due("ends at step 40", x.ride(0, 1, 2, 0), 4);
        due("a place at the last step alone", x.ride(0, 1, 2, 4), 0b11100);
        due("40 steps", x.ride(0, 1, 2, 1), 40);
    }

    private static void aPlaceTwice() {
        aLine();
        x.person(0, 0, 7);
        x.person(0, 0, 0);
        rule("pulls behind*steps; moods 0; enough steps=2;");
        rideAll(0, 1, 3, 3, 2, 8, 1, 0b11000, 1);
        rideAll(1, 0, 3, 3, 2, 6, 1, 0b1100, 1);
        rideAll(0, 1, 5, 5, 2, 12, 1, 0b1100000, 1);
    }

    private static void textZeroHasEnough() {
        x = new TandemKeepsAPlace();
        x.person(0, 0, 0);
        x.person(0, 0, 0);
        for (int s = 0; s <= 40; s++) {
            due("enough after " + s, x.asks(0, 1, 0, s, 4), s > 12 ? 3 : 0);
            due("pull after " + s, x.asks(0, 1, 0, s, 0), Math.max(0, 10 - s));
            due("mood after " + s, x.asks(0, 1, 0, s, 3), 0);
        }
    }

    private static void firstOfLikeOnes() {
        x = new TandemKeepsAPlace();
        x.person(0, 5, 7);
        x.person(0, 0, 0);
        x.road(0, 5, 3);
        x.road(5, 7, 4);
        x.road(0, 2, 4);
        x.road(2, 7, 3);
        x.road(0, 7, 8);
        rideAll(0, 1, 0, 7, 2, 7, 0, 0b10000101, 2);
        x.road(0, 2, 5);
        rideAll(0, 1, 0, 7, 2, 7, 0, 0b10100001, 2);
        x.road(0, 7, 7);
        rideAll(0, 1, 0, 7, 2, 7, 0, 0b10100001, 2);
        x.road(0, 7, 6);
        rideAll(0, 1, 0, 7, 1, 6, 0, 0b10000001, 1);
    }

    private static void rideRefuses() {
        x = new TandemKeepsAPlace();
        x.person(0, 0, 0);
        due("nobody behind", x.ride(0, 1, 0, 0), Check.BAD);
        x.person(0, 0, 0);
        due("one and the same", x.ride(1, 1, 0, 0), Check.BAD);
        due("front below 0", x.ride(-1, 1, 0, 0), Check.BAD);
        due("behind 2", x.ride(0, 2, 0, 0), Check.BAD);
        due("from 8", x.ride(0, 1, 8, 0), Check.BAD);
        due("from below 0", x.ride(0, 1, -1, 0), Check.BAD);
        for (int what = 6; what < 10; what++) {
            due("what " + what, x.ride(0, 1, 0, what), Check.BAD);
        }
        due("what 51", x.ride(0, 1, 0, 51), Check.BAD);
        due("what below 0", x.ride(0, 1, 0, -1), Check.BAD);
        due("what 50", x.ride(0, 1, 0, 50), 0);
    }

    private static void goes() {
        aLine();
        x.person(0, 5, 3);
        x.person(0, 1, 7);
        x.person(0, 0, 0);
        due("goes", x.goes(0, 1, 0), 6);
        due("again", x.goes(0, 1, 0), 6);
        due("with another", x.goes(1, 2, 0), 28);
        due("ridden by 0", x.told(0, 4), 12);
        due("ridden by 1", x.told(1, 4), 40);
        due("ridden by 2", x.told(2, 4), 28);
        due("by all", x.count(2), 80);
        due("one and the same", x.goes(0, 0, 0), Check.BAD);
        due("no such", x.goes(0, 3, 0), Check.BAD);
        due("from 8", x.goes(0, 1, 8), Check.BAD);
        due("from below 0", x.goes(0, 1, -1), Check.BAD);
        due("by all, still", x.count(2), 80);
        mostRidden();
    }

    private static void mostRidden() {
        x = new TandemKeepsAPlace();
        x.person(0, 0, 7);
        x.person(0, 0, 0);
        x.person(0, 9, 7);
        x.road(0, 1, 99);
        x.road(1, 7, 99);
        rule("pulls behind*(miles=99)*2; moods 1; enough 0;");
        long ridden = 0;
        for (int i = 0; i < 30; i++) {
            int miles = x.goes(0, 1, 0);
            due("to and fro", miles, 3960);
            ridden = Math.min(99999, ridden + miles);
            due("ridden " + i, x.told(0, 4), ridden);
        }
        due("99999 each, at most", x.count(2), 199998);
        due("a third", x.goes(2, 0, 0), 198);
        due("99999", x.told(0, 4), 99999);
        due("the third's", x.told(2, 4), 198);
    }

    private static void far() {
        aLine();
        due("far 0 7", x.far(0, 7), 28);
        due("far 7 0", x.far(7, 0), 28);
        due("far 2 2", x.far(2, 2), 0);
        x.road(0, 7, 3);
        due("around", x.far(1, 6), 11);
        x.road(5, 6, 0);
        x.road(3, 4, 0);
        due("no way", x.far(0, 4), -1);
        due("no way", x.far(5, 3), -1);
        due("place 8", x.far(8, 0), Check.BAD);
        due("other 8", x.far(0, 8), Check.BAD);
        due("below 0", x.far(-1, 0), Check.BAD);
        due("other below 0", x.far(0, -1), Check.BAD);
        x = new TandemKeepsAPlace();
        for (int place = 1; place < 8; place++) {
            x.road(place - 1, place, 99);
        }
        due("the farthest", x.far(0, 7), 693);
    }

    private static void best() {
        aLine();
        x.person(0, 4, 3);
        due("nobody else", x.best(0, 0, 0), -1);
        due("nobody else, long", x.best(0, 0, 1), -1);
        x.person(0, 9, 7);
        due("too strong", x.best(0, 0, 0), -1);
        due("too strong, long", x.best(0, 0, 1), -1);
        x.person(0, 3, 7);
        x.person(0, 2, 7);
        due("the first of like ones", x.best(0, 0, 0), 2);
        due("long", x.best(0, 0, 1), 6);
        due("at one's goal already", x.best(0, 3, 1), 0);
        x.person(0, 9, 3);
        due("one who would the same, if they are like ones", x.best(0, 0, 0), 2);
        x.set(1, 0, 8);
        due("all but one", x.best(2, 6, 0), 1);
        due("long", x.best(2, 6, 1), 7);
        due("front 5", x.best(5, 0, 0), Check.BAD);
        due("front below 0", x.best(-1, 0, 0), Check.BAD);
        due("from 8", x.best(0, 8, 0), Check.BAD);
        due("from below 0", x.best(0, -1, 0), Check.BAD);
        due("what 2", x.best(0, 0, 2), Check.BAD);
        due("what below 0", x.best(0, 0, -1), Check.BAD);
        fewestMiles();
    }

    /** Behind 0 each ends at 2: 1 by 4, where 1 would be; 2 and 3 at once, as they never steer. */
    private static void fewestMiles() {
        x = new TandemKeepsAPlace();
        x.person(0, 0, 2);
        x.person(0, 5, 4);
        x.person(0, 0, 4);
        x.person(0, 0, 5);
        x.road(0, 2, 50);
        x.road(0, 4, 10);
        x.road(4, 2, 60);
        rule("pulls behind*(steps<1)*number; moods 0; enough 0;");
        due("long with 1", x.ride(0, 1, 0, 2), 70);
        due("it ends there", x.ride(0, 1, 0, 0), 2);
        due("long with 2", x.ride(0, 2, 0, 2), 50);
        due("best", x.best(0, 0, 0), 2);
        due("its long", x.best(0, 0, 1), 50);
        x.set(1, 2, 1);
        due("the next", x.best(0, 0, 0), 3);
        x.set(1, 3, 1);
        due("who is behind has no way, so they stay", x.from(0, 3), 0b100);
    }

    private static void from() {
        aLine();
        x.person(0, 4, 3);
        x.person(0, 9, 6);
        due("to the other's, but for none", x.from(0, 1), 0);
        due("to one's own", x.from(1, 0), 0b11111111);
        x.road(4, 5, 0);
        due("no way from there", x.from(1, 0), 0b11100000);
        due("one and the same", x.from(0, 0), Check.BAD);
        due("no such", x.from(0, 2), Check.BAD);
        due("front below 0", x.from(-1, 0), Check.BAD);
        aLine();
        x.person(0, 0, 3);
        x.person(0, 0, 0);
        rule("pulls 0; moods 0; enough 1;");
        due("only there, as both have enough", x.from(0, 1), 0b1000);
        x.road(2, 3, 0);
        x.set(2, 1, 2);
        rule("pulls behind; moods 0; enough 0;");
        due("who is behind ends elsewhere", x.from(0, 1), 0b1000);
    }

    /** LONG from 0 is as told here by the two; the lesser in front, where both would to one's. */
    private static void together() {
        x = new TandemKeepsAPlace();
        for (int place = 1; place < 8; place++) {
            x.road(0, place, 10 * place);
        }
        int[] goals = {1, 2, 3, 4, 5, 6};
        for (int one = 0; one < 6; one++) {
            x.person(0, 9 - one, goals[one]);
        }
        due("the least are in front, so the two greatest are behind", x.together(0, 0), 142536);
        due("long", x.together(0, 1), 60);
        for (int one = 0; one < 6; one++) {
            x.set(1, one, one);
        }
        due("the greater steer", x.together(0, 0), 123456);
        due("long", x.together(0, 1), 120);
        x.set(2, 5, 0);
        due("with one who would stay", x.together(0, 0), 123456);
        due("long", x.together(0, 1), 60);
        x.set(2, 1, 7);
        due("with one who would go far", x.together(0, 0), 132456);
        due("long", x.together(0, 1), 30 + 40 + 0);
        due("from 8", x.together(8, 0), Check.BAD);
        due("from below 0", x.together(-1, 0), Check.BAD);
        due("what 2", x.together(0, 2), Check.BAD);
        due("what below 0", x.together(0, -1), Check.BAD);
    }

    private static void togetherOfFew() {
        x = new TandemKeepsAPlace();
        due("nobody", x.together(0, 0), 0);
        due("nobody, long", x.together(0, 1), 0);
        due("nobody, from 8", x.together(8, 0), Check.BAD);
        x.person(0, 1, 1);
        x.road(0, 1, 10);
        x.road(0, 2, 20);
        x.road(0, 3, 30);
        due("one", x.together(0, 0), 0);
        due("one, long", x.together(0, 1), 0);
        x.person(0, 1, 2);
        due("two", x.together(0, 0), 12);
        due("two, long", x.together(0, 1), 10);
        x.person(0, 1, 3);
        due("of like ones the first", x.together(0, 0), 12);
        x.set(2, 0, 3);
        due("one rides not", x.together(0, 0), 23);
        due("long", x.together(0, 1), 20);
        x.person(0, 1, 0);
        due("four", x.together(0, 0), 1324);
        due("long", x.together(0, 1), 30 + 20);
        x.person(0, 5, 0);
        due("five: the fourth rides not", x.together(0, 0), 1523);
        due("long", x.together(0, 1), 20);
        x.set(1, 3, 4);
        due("five: two like ways", x.together(0, 0), 1425);
        due("long", x.together(0, 1), 0);
    }

    private static void shut() {
        aLine();
        x.person(0, 5, 3);
        x.person(0, 1, 7);
        due("no road that makes it longer", x.shut(0, 1, 0, 0), -1);
        due("nor with 1 in front", x.shut(1, 0, 0, 0), -1);
        due("as so", x.shut(0, 1, 0, 1), 6);
        x.road(1, 3, 50);
        x.road(2, 4, 40);
        x.road(0, 7, 2);
        due("without 2 3: by 2 4 and 4 3", x.ride(0, 1, 0, 2), 6);
        due("shut", x.shut(0, 1, 0, 0), 1);
        due("long then", x.shut(0, 1, 0, 1), 24);
        due("the roads are as they were", x.count(1), 10);
        due("and as far", x.far(0, 3), 6);
        x.road(0, 7, 0);
        due("without 1 2, 50; without 2 3, 46", x.shut(0, 1, 1, 0), 12);
        due("long then", x.shut(0, 1, 1, 1), 50);
        x.road(1, 3, 60);
        x.road(2, 4, 80);
        due("without 2 3, 60 as well as without 1 2", x.shut(0, 1, 1, 0), 12);
        due("long then", x.shut(0, 1, 1, 1), 60);
        x.road(1, 4, 50);
        due("without 1 2 and without 2 3: by 1 4", x.shut(0, 1, 1, 1), 54);
        x.road(1, 2, 1);
        x.road(2, 4, 51);
        due("the latter", x.shut(0, 1, 1, 0), 12);
        x.road(1, 4, 0);
        x.road(1, 3, 54);
        due("54 by 1 3, 56 by 2 4, but 54 by 1 3", x.shut(0, 1, 1, 1), 54);
        x.road(1, 3, 5);
        x.road(1, 2, 2);
        due("as far around: not longer", x.shut(0, 1, 1, 0), -1);
        due("as so", x.shut(0, 1, 1, 1), 5);
        x.road(1, 3, 6);
        due("of like ones the first", x.shut(0, 1, 1, 0), 12);
        due("long then", x.shut(0, 1, 1, 1), 6);
        x.person(0, 9, 6);
        x.person(0, 3, 5);
        x.road(5, 7, 50);
        x.road(6, 7, 0);
        due("others, who would to 6", x.shut(2, 3, 4, 0), -1);
        x.road(4, 6, 12);
        due("others: without 4 5 by 4 6", x.shut(2, 3, 4, 0), 45);
        due("long then", x.shut(2, 3, 4, 1), 12);
        due("of 3 in front", x.shut(3, 2, 4, 0), 45);
        due("of 3 in front of 0: without 3 4 by 2 4", x.shut(3, 0, 4, 0), 34);
        due("long then", x.shut(3, 0, 4, 1), 54);
        due("one and the same", x.shut(0, 0, 0, 0), Check.BAD);
        due("no such", x.shut(0, 4, 0, 0), Check.BAD);
        due("front below 0", x.shut(-1, 0, 0, 0), Check.BAD);
        due("from 8", x.shut(0, 1, 8, 0), Check.BAD);
        due("from below 0", x.shut(0, 1, -1, 0), Check.BAD);
        due("what 2", x.shut(0, 1, 0, 2), Check.BAD);
        due("what below 0", x.shut(0, 1, 0, -1), Check.BAD);
    }
}
