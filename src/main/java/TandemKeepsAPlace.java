/** The tandem keeps a place: see README.md for its use and ../shared/DOC.md for its promises. */
public final class TandemKeepsAPlace {
    public static final int NONE = -1, BAD = -2, STATE = -3, FULL = -4;
    public static final long NO = -4611686018427387904L;

    private static final int MISSING = -11, OUTSIDE = -12, UNLIKE = -13, NEGATIVE = -14;
    private static final int FAULT = -100;

    private static final int PLACES = 8, MOST_MILES = 99, MOST_STEPS = 40, NO_WAY = 999;
    private static final int MOST_PEOPLE = 6, NUMBERS = 10, HOURS = 24, MOST_RIDDEN = 99999;
    private static final int MOST_TEXTS = 6, MOST_TAPE = 160, MOST_OPEN = 5, MOST_DIGITS = 4;
    private static final int SHEETS = 4, SORTS = 3, MOST_CELLS = 40, MOST_TOLD = 20, MOST_SEEDS = 20;
    private static final int BYTES = 0, SHORTS = 1;

    private static final int KINDS = 6;
    private static final int RIDER = 0, CLERK = 1, STRONG = 2, MISTRESS = 3, DEAD = 4, TIMID = 5;

    /** The three parts of a TEXT, numbered as their KEYS are. */
    private static final int PULLS = 0, MOODS = 1, ENOUGH = 2, PARTS = 3;

    /** What a TEXT may ask of one on a tandem, in the order of the NAMES. */
    private static final int MILES = 0, NUMBER = 1, STEPS = 2, HOUR = 3, BEHIND = 4, THEIRS = 5, NAMES = 6;

    /** HOUR and THE RULE stand in one row, so that both can be tried out as NUMBERS and GOALS are. */
    private static final int HOUR_DIAL = 0, RULE_DIAL = 1, DIALS = 2;

    private static final String FIRST_RULE =
        "pulls 10 + number - steps ; moods number ; enough 12 < steps ;";

    private final World world = new World();
    private final World image = new World();
    private boolean imageKept;
    private final Texts texts = new Texts();
    private final Tandem tandem = new Tandem(world, texts);
    private final Sheet[] sheets = new Sheet[SHEETS];
    private final int[] goalsAside = new int[MOST_PEOPLE];
    private final int[] milesOfTwo = new int[MOST_PEOPLE * MOST_PEOPLE];
    private final int[] leastMiles = new int[1 << MOST_PEOPLE];
    private final int[] leastWay = new int[1 << MOST_PEOPLE];

    public TandemKeepsAPlace() {
        for (int i = 0; i < SHEETS; i++) {
            sheets[i] = new Sheet();
        }
    }

    // ---- roads, people

    public int set(int what, int of, int v) {
        if (what == 0) {
            return isIn(v, HOURS) ? replace(world.dials, HOUR_DIAL, v) : BAD;
        }
        if (!world.hasPerson(of)) {
            return BAD;
        }
        if (what == 1 && isIn(v, NUMBERS)) {
            return replace(world.number, of, v);
        }
        if (what == 2 && isIn(v, PLACES)) {
            return replace(world.goal, of, v);
        }
        return BAD;
    }

    public int road(int one, int other, int miles) {
        if (!isIn(one, PLACES) || !isIn(other, PLACES) || one == other || !isIn(miles, MOST_MILES + 1)) {
            return BAD;
        }
        int was = world.milesByRoad(one, other);
        world.layRoad(one, other, miles);
        return was;
    }

    public int person(int kind, int number, int goal) {
        if (!isIn(kind, KINDS) || !isIn(number, NUMBERS) || !isIn(goal, PLACES)) {
            return BAD;
        }
        if (world.population >= MOST_PEOPLE) {
            return FULL;
        }
        return world.welcome(kind, number, goal);
    }

    public int told(int of, int what) {
        if (what == 0) {
            return world.dials[HOUR_DIAL];
        }
        if (!world.hasPerson(of)) {
            return BAD;
        }
        switch (what) {
            case 1: return world.number[of];
            case 2: return world.goal[of];
            case 3: return world.kind[of];
            case 4: return world.ridden[of];
            case 5: return ruledBy(of);
            default: return BAD;
        }
    }

    public int asks(int front, int behind, int at, int s, int what) {
        if (!areTwo(front, behind) || !isIn(at, PLACES) || !isIn(s, MOST_STEPS + 1)) {
            return BAD;
        }
        tandem.seat(front, behind, at, s);
        switch (what) {
            case 0: return tandem.pullOf(false);
            case 1: return tandem.pullOf(true);
            case 2: return tandem.moodOf(false);
            case 3: return tandem.moodOf(true);
            case 4: return (tandem.hasEnough(false) ? 1 : 0) + (tandem.hasEnough(true) ? 2 : 0);
            case 5: return tandem.steersman();
            default: return BAD;
        }
    }

    // ---- texts

    public int feed(int letter) {
        if (!isIn(letter, 256)) {
            return BAD;
        }
        return texts.tape.take(letter) ? texts.tape.size : FULL;
    }

    public int text() {
        return texts.takeTape();
    }

    public int force(int text) {
        return isIn(text, texts.known) ? replace(world.dials, RULE_DIAL, text) : BAD;
    }

    // ---- rides

    public int ride(int front, int behind, int from, int what) {
        boolean asksPlace = what >= 10 && what <= 10 + MOST_STEPS;
        if (!areTwo(front, behind) || !isIn(from, PLACES) || !isIn(what, 6) && !asksPlace) {
            return BAD;
        }
        tandem.rideFrom(front, behind, from);
        switch (what) {
            case 0: return tandem.at;
            case 1: return tandem.steps;
            case 2: return tandem.miles;
            case 3: return Integer.bitCount(tandem.placesSeen()) <= tandem.steps ? 1 : 0;
            case 4: return tandem.placesSeen();
            case 5: return tandem.stepsByFront;
            default: return tandem.placeBehind(what - 10);
        }
    }

    public int goes(int front, int behind, int from) {
        if (!areTwo(front, behind) || !isIn(from, PLACES)) {
            return BAD;
        }
        return rideTruly(front, behind, from);
    }

    public int far(int one, int other) {
        if (!isIn(one, PLACES) || !isIn(other, PLACES)) {
            return BAD;
        }
        int least = world.leastMiles(one, other);
        return least == NO_WAY ? NONE : least;
    }

    // ---- what would be best

    public int best(int front, int from, int what) {
        if (!world.hasPerson(front) || !isIn(from, PLACES) || !isIn(what, 2)) {
            return BAD;
        }
        int best = bestBehind(front, from);
        if (what == 0 || best == NONE) {
            return best;
        }
        return tandem.rideFrom(front, best, from);
    }

    public int from(int front, int behind) {
        if (!areTwo(front, behind)) {
            return BAD;
        }
        int bits = 0;
        for (int place = 0; place < PLACES; place++) {
            if (endsAtGoalOfFront(front, behind, place)) {
                bits |= 1 << place;
            }
        }
        return bits;
    }

    public int together(int from, int what) {
        if (!isIn(from, PLACES) || !isIn(what, 2)) {
            return BAD;
        }
        if (world.population < 2) {
            return 0;
        }
        measureAllTwos(from);
        int all = (1 << world.population) - 1;
        leastMiles[0] = 0;
        leastWay[0] = 0;
        for (int left = 1; left <= all; left++) {
            putTogether(left);
        }
        return what == 0 ? leastWay[all] : leastMiles[all];
    }

    public int shut(int front, int behind, int from, int what) {
        if (!areTwo(front, behind) || !isIn(from, PLACES) || !isIn(what, 2)) {
            return BAD;
        }
        int worst = NONE;
        int longest = tandem.rideFrom(front, behind, from);
        for (int one = 0; one < PLACES; one++) {
            for (int other = one + 1; other < PLACES; other++) {
                int without = rideWithoutRoad(10 * front + behind, from, one, other);
                if (without > longest) {
                    longest = without;
                    worst = 10 * one + other;
                }
            }
        }
        return what == 0 ? worst : longest;
    }

    // ---- rides that were told

    public int tells(int sheet, int two, int from, int what) {
        if (!isIn(sheet, SHEETS) || !isTwo(two) || !isIn(from, PLACES) || !isIn(what, 7)) {
            return BAD;
        }
        Sheet seen = sheets[sheet];
        if (seen.isMissing()) {
            return MISSING;
        }
        if (seen.size > MOST_TOLD) {
            return BAD;
        }
        int behind = two % 10;
        switch (what) {
            case 0: return firstOtherwise(seen, two, from);
            case 1: return couldBeBehind(seen, two / 10, from);
            case 2: return couldBe(seen, two, from, world.kind, behind, KINDS);
            case 3: return couldBe(seen, two, from, world.number, behind, NUMBERS);
            case 4: return couldBe(seen, two, from, world.goal, behind, PLACES);
            case 5: return couldBe(seen, two, from, world.dials, HOUR_DIAL, HOURS);
            default: return couldBe(seen, two, from, world.dials, RULE_DIAL, texts.known);
        }
    }

    public int film(int sheet, int two, int from, int n) {
        if (!isIn(sheet, SHEETS) || !isTwo(two) || !isIn(from, PLACES) || !isIn(n, MOST_TOLD + 1)) {
            return BAD;
        }
        rideTruly(two / 10, two % 10, from);
        Sheet film = sheets[sheet];
        film.become(BYTES, n);
        for (int i = 0; i < n; i++) {
            film.put(i, tandem.placeBehind(i));
        }
        return n;
    }

    public int drawn(int seed, int two, int from) {
        if (!isTwo(two) || !isIn(from, PLACES)) {
            return BAD;
        }
        putGoalsAside();
        drawGoals(seed);
        int miles = tandem.rideFrom(two / 10, two % 10, from);
        layGoalsBack();
        return miles;
    }

    public long chance(int seed, int m, int two, int part) {
        if (m < 1 || m > MOST_SEEDS || !isTwo(two) || !isIn(part, 2)) {
            return NO;
        }
        int good = 0;
        putGoalsAside();
        for (int i = 0; i < m; i++) {
            drawGoals(seed + i);
            if (endsAtGoalOfFront(two / 10, two % 10, 0)) {
                good++;
            }
        }
        layGoalsBack();
        int shared = commonDivisor(good, m);
        return (part == 0 ? good : m) / shared;
    }

    public int image() {
        image.copyFrom(world);
        imageKept = true;
        return image.population;
    }

    public int back() {
        if (!imageKept) {
            return STATE;
        }
        world.copyFrom(image);
        return world.population;
    }

    public int count(int what) {
        switch (what) {
            case 0: return world.population;
            case 1: return world.roadsLaid();
            case 2: return world.riddenByAll();
            case 3: return texts.known;
            case 4: return texts.tape.size;
            case 5: return world.dials[RULE_DIAL];
            default: return BAD;
        }
    }

    // ---- the host

    public int sheet(int sheet, int sort, int n) {
        if (!isIn(sheet, SHEETS) || sort < NONE || sort >= SORTS) {
            return BAD;
        }
        if (sort == NONE) {
            sheets[sheet].become(NONE, 0);
            return 1;
        }
        if (n > MOST_CELLS) {
            return BAD;
        }
        if (n < 0) {
            return NEGATIVE;
        }
        sheets[sheet].become(sort, n);
        return 1;
    }

    public int cell(int sheet, int i, int v) {
        if (!isIn(sheet, SHEETS)) {
            return BAD;
        }
        Sheet row = sheets[sheet];
        if (row.isMissing()) {
            return MISSING;
        }
        if (!isIn(i, row.size)) {
            return OUTSIDE;
        }
        row.put(i, v);
        return 1;
    }

    public int copy(int sheet, int i, int other, int j, int n) {
        if (!isIn(sheet, SHEETS) || !isIn(other, SHEETS)) {
            return BAD;
        }
        Sheet source = sheets[sheet];
        Sheet target = sheets[other];
        if (source.isMissing() || target.isMissing()) {
            return MISSING;
        }
        if (source.sort != target.sort) {
            return UNLIKE;
        }
        if (!source.holds(i, n) || !target.holds(j, n)) {
            return OUTSIDE;
        }
        System.arraycopy(source.cells, i, target.cells, j, n);
        return n;
    }

    public int people(int sheet, int sort, int from, int n) {
        if (!isIn(sheet, SHEETS) || !isIn(sort, SORTS) || !isIn(n, MOST_PEOPLE + 1)) {
            return BAD;
        }
        Sheet row = sheets[sheet];
        if (row.isMissing()) {
            return MISSING;
        }
        if (row.sort != sort) {
            return UNLIKE;
        }
        int came = 0;
        for (int k = 0; k < n; k++) {
            if (!row.holds(from, 3 * k + 3)) {
                return OUTSIDE;
            }
            int i = from + 3 * k;
            if (person(row.cells[i], row.cells[i + 1], row.cells[i + 2]) >= 0) {
                came++;
            }
        }
        return came;
    }

    public int taken(int one, int k) {
        if (!isIn(k, KINDS)) {
            return BAD;
        }
        if (!world.hasPerson(one)) {
            return MISSING;
        }
        return Kinds.isUnder(world.kind[one], k) ? world.number[one] : UNLIKE;
    }

    // ---- what the calls above share

    private static boolean isIn(int v, int bound) {
        return v >= 0 && v < bound;
    }

    private static int replace(int[] row, int i, int v) {
        int was = row[i];
        row[i] = v;
        return was;
    }

    private static int commonDivisor(int a, int b) {
        for (int d = Math.max(a, b); d > 1; d--) {
            if (a % d == 0 && b % d == 0) {
                return d;
            }
        }
        return 1;
    }

    private boolean areTwo(int front, int behind) {
        return world.hasPerson(front) && world.hasPerson(behind) && front != behind;
    }

    private boolean isTwo(int two) {
        return two >= 0 && areTwo(two / 10, two % 10);
    }

    private int rideTruly(int front, int behind, int from) {
        int miles = tandem.rideFrom(front, behind, from);
        world.addRidden(front, miles);
        world.addRidden(behind, miles);
        return miles;
    }

    private boolean endsAtGoalOfFront(int front, int behind, int from) {
        tandem.rideFrom(front, behind, from);
        return tandem.at == world.goal[front];
    }

    private int ruledBy(int one) {
        int bits = 0;
        for (int other = 0; other < world.population; other++) {
            if (other != one && steersEverywhere(other, one)) {
                bits |= 1 << other;
            }
        }
        return bits;
    }

    private boolean steersEverywhere(int front, int behind) {
        for (int place = 0; place < PLACES; place++) {
            tandem.seat(front, behind, place, 0);
            if (tandem.steersman() != behind) {
                return false;
            }
        }
        return true;
    }

    private int bestBehind(int front, int from) {
        int best = NONE;
        int fewest = 0;
        for (int behind = 0; behind < world.population; behind++) {
            if (behind != front && endsAtGoalOfFront(front, behind, from)
                    && (best == NONE || tandem.miles < fewest)) {
                best = behind;
                fewest = tandem.miles;
            }
        }
        return best;
    }

    private void measureAllTwos(int from) {
        for (int one = 0; one < world.population; one++) {
            for (int other = one + 1; other < world.population; other++) {
                milesOfTwo[one * MOST_PEOPLE + other] = tandem.rideFrom(one, other, from);
            }
        }
    }

    /** Finds the best way for those left (bits); that for any fewer of them was found ahead. */
    private void putTogether(int left) {
        int one = Integer.numberOfTrailingZeros(left);
        int others = left & ~(1 << one);
        leastMiles[left] = NONE;
        for (int other = one + 1; other < world.population; other++) {
            if ((others & 1 << other) != 0) {
                int digits = (one + 1) * 10 + other + 1;
                keepIfLess(left, others & ~(1 << other), digits, milesOfTwo[one * MOST_PEOPLE + other]);
            }
        }
        if (Integer.bitCount(left) % 2 == 1) {
            keepIfLess(left, others, 0, 0);
        }
    }

    private void keepIfLess(int left, int rest, int digits, int miles) {
        int all = miles + leastMiles[rest];
        if (leastMiles[left] != NONE && all >= leastMiles[left]) {
            return;
        }
        int ahead = digits;
        for (int twos = Integer.bitCount(rest) / 2; twos > 0; twos--) {
            ahead *= 100;
        }
        leastMiles[left] = all;
        leastWay[left] = ahead + leastWay[rest];
    }

    /** LONG of the RIDE if that ROAD were shut; NONE where there is no such ROAD. */
    private int rideWithoutRoad(int two, int from, int one, int other) {
        int was = world.milesByRoad(one, other);
        if (was == 0) {
            return NONE;
        }
        world.layRoad(one, other, 0);
        int miles = tandem.rideFrom(two / 10, two % 10, from);
        world.layRoad(one, other, was);
        return miles;
    }

    private int firstOtherwise(Sheet seen, int two, int from) {
        tandem.rideFrom(two / 10, two % 10, from);
        for (int i = 0; i < seen.size; i++) {
            if (seen.cells[i] != tandem.placeBehind(i)) {
                return i;
            }
        }
        return NONE;
    }

    private int couldBeBehind(Sheet seen, int front, int from) {
        int bits = 0;
        for (int behind = 0; behind < world.population; behind++) {
            if (behind != front && firstOtherwise(seen, 10 * front + behind, from) == NONE) {
                bits |= 1 << behind;
            }
        }
        return bits;
    }

    /** By which values (bits) of item i of a row of the world all would be as seen. */
    private int couldBe(Sheet seen, int two, int from, int[] row, int i, int values) {
        int was = row[i];
        int bits = 0;
        for (int v = 0; v < values; v++) {
            row[i] = v;
            if (firstOtherwise(seen, two, from) == NONE) {
                bits |= 1 << v;
            }
        }
        row[i] = was;
        return bits;
    }

    private void putGoalsAside() {
        System.arraycopy(world.goal, 0, goalsAside, 0, MOST_PEOPLE);
    }

    private void layGoalsBack() {
        System.arraycopy(goalsAside, 0, world.goal, 0, MOST_PEOPLE);
    }

    private void drawGoals(int seed) {
        int z = seed;
        for (int one = 0; one < world.population; one++) {
            z = z * 1103515245 + 12345;
            world.goal[one] = (z >>> 9) % PLACES;
        }
    }

    /** All that AN IMAGE keeps. */
    private static final class World {
        private final int[] byRoad = new int[PLACES * PLACES];
        private final int[] atLeast = new int[PLACES * PLACES];
        private final int[] kind = new int[MOST_PEOPLE];
        private final int[] number = new int[MOST_PEOPLE];
        private final int[] goal = new int[MOST_PEOPLE];
        private final int[] ridden = new int[MOST_PEOPLE];
        private final int[] dials = new int[DIALS];
        private int population;

        World() {
            dials[HOUR_DIAL] = 9;
            measure();
        }

        void copyFrom(World other) {
            System.arraycopy(other.byRoad, 0, byRoad, 0, byRoad.length);
            System.arraycopy(other.atLeast, 0, atLeast, 0, atLeast.length);
            System.arraycopy(other.kind, 0, kind, 0, MOST_PEOPLE);
            System.arraycopy(other.number, 0, number, 0, MOST_PEOPLE);
            System.arraycopy(other.goal, 0, goal, 0, MOST_PEOPLE);
            System.arraycopy(other.ridden, 0, ridden, 0, MOST_PEOPLE);
            System.arraycopy(other.dials, 0, dials, 0, DIALS);
            population = other.population;
        }

        boolean hasPerson(int one) {
            return isIn(one, population);
        }

        int welcome(int itsKind, int itsNumber, int itsGoal) {
            int one = population;
            kind[one] = itsKind;
            number[one] = itsNumber;
            goal[one] = itsGoal;
            ridden[one] = 0;
            population++;
            return one;
        }

        void addRidden(int one, int miles) {
            ridden[one] = Math.min(MOST_RIDDEN, ridden[one] + miles);
        }

        int riddenByAll() {
            int all = 0;
            for (int one = 0; one < population; one++) {
                all += ridden[one];
            }
            return all;
        }

        int milesByRoad(int one, int other) {
            return byRoad[one * PLACES + other];
        }

        int leastMiles(int one, int other) {
            return atLeast[one * PLACES + other];
        }

        void layRoad(int one, int other, int miles) {
            byRoad[one * PLACES + other] = miles;
            byRoad[other * PLACES + one] = miles;
            measure();
        }

        int roadsLaid() {
            int laid = 0;
            for (int i = 0; i < byRoad.length; i++) {
                laid += byRoad[i] != 0 ? 1 : 0;
            }
            return laid / 2;
        }

        /** The PLACE beside, by which it is fewest miles; the PLACE itself, where there is no way. */
        int placeToward(int at, int where) {
            int first = at;
            int fewest = NO_WAY;
            for (int place = 0; place < PLACES; place++) {
                int by = milesByRoad(at, place);
                if (by != 0 && by + leastMiles(place, where) < fewest) {
                    fewest = by + leastMiles(place, where);
                    first = place;
                }
            }
            return first;
        }

        /** NO_WAY is more than any way has, so that a sum with it is never less. */
        private void measure() {
            for (int i = 0; i < atLeast.length; i++) {
                boolean same = i / PLACES == i % PLACES;
                atLeast[i] = same ? 0 : byRoad[i] != 0 ? byRoad[i] : NO_WAY;
            }
            for (int by = 0; by < PLACES; by++) {
                for (int i = 0; i < atLeast.length; i++) {
                    int around = leastMiles(i / PLACES, by) + leastMiles(by, i % PLACES);
                    atLeast[i] = Math.min(atLeast[i], around);
                }
            }
        }
    }

    /** What the KINDS make of what THE RULE tells. */
    private static final class Kinds {
        static boolean isUnder(int kind, int other) {
            return kind == other || other == RIDER
                || kind == MISTRESS && other == CLERK || kind == DEAD && other == STRONG;
        }

        static int pull(int kind, int v, int number, int hour, boolean rear) {
            int clerks = rear ? v / 2 : v;
            switch (kind) {
                case CLERK: return clerks;
                case STRONG: return v + number;
                case MISTRESS: return hour < 12 ? 2 * clerks : clerks;
                case DEAD: return rear ? v + number + 10 : 0;
                case TIMID: return 1;
                default: return v;
            }
        }

        static int mood(int kind, int v, int number) {
            switch (kind) {
                case CLERK:
                case MISTRESS: return Math.max(0, v - 3);
                case DEAD: return v + number;
                case TIMID: return v / 2;
                default: return v;
            }
        }

        static boolean enough(int kind, boolean yes, int number, int steps) {
            switch (kind) {
                case CLERK:
                case MISTRESS: return yes || steps >= 9;
                case STRONG: return yes && steps > number;
                case DEAD: return false;
                case TIMID: return steps >= number;
                default: return yes;
            }
        }
    }

    /** Two on a tandem, at a PLACE after some STEPS, and the RIDE that brought them there. */
    private static final class Tandem {
        private final World world;
        private final Texts texts;
        private final int[] facts = new int[NAMES];
        private final int[] frontTold = new int[PARTS];
        private final int[] rearTold = new int[PARTS];
        private final int[] places = new int[MOST_STEPS + 1];
        private int front;
        private int behind;
        private int at;
        private int steps;
        private int miles;
        private int stepsByFront;

        Tandem(World itsWorld, Texts itsTexts) {
            world = itsWorld;
            texts = itsTexts;
        }

        /** Seats them there; what THE RULE tells is told anew, as it may be otherwise at each PLACE. */
        void seat(int inFront, int atRear, int place, int stepsGone) {
            front = inFront;
            behind = atRear;
            at = place;
            steps = stepsGone;
            hearRule(frontTold, false);
            hearRule(rearTold, true);
        }

        int pullOf(boolean rear) {
            int one = rear ? behind : front;
            int v = bounded(rear ? rearTold[PULLS] : frontTold[PULLS]);
            return Kinds.pull(world.kind[one], v, world.number[one], world.dials[HOUR_DIAL], rear);
        }

        int moodOf(boolean rear) {
            int one = rear ? behind : front;
            int v = bounded(rear ? rearTold[MOODS] : frontTold[MOODS]);
            return Kinds.mood(world.kind[one], v, world.number[one]);
        }

        boolean hasEnough(boolean rear) {
            int one = rear ? behind : front;
            int told = rear ? rearTold[ENOUGH] : frontTold[ENOUGH];
            return Kinds.enough(world.kind[one], told != 0, world.number[one], steps);
        }

        int steersman() {
            return pullOf(true) + moodOf(true) > pullOf(false) + moodOf(false) ? behind : front;
        }

        /** Makes the RIDE and tells its LONG. */
        int rideFrom(int inFront, int atRear, int from) {
            miles = 0;
            stepsByFront = 0;
            places[0] = from;
            seat(inFront, atRear, from, 0);
            for (int s = 1; s <= MOST_STEPS; s++) {
                int steers = steersman();
                int where = world.goal[steers];
                if (isOver(where)) {
                    break;
                }
                int next = world.placeToward(at, where);
                miles += world.milesByRoad(at, next);
                stepsByFront += steers == front ? 1 : 0;
                places[s] = next;
                seat(front, behind, next, s);
            }
            return miles;
        }

        int placeBehind(int stepsGone) {
            return places[Math.max(0, Math.min(stepsGone, steps))];
        }

        int placesSeen() {
            int bits = 0;
            for (int s = 0; s <= steps && s <= MOST_STEPS; s++) {
                bits |= 1 << places[s];
            }
            return bits;
        }

        private boolean isOver(int where) {
            return at == where || world.leastMiles(at, where) == NO_WAY || hasEnough(false) && hasEnough(true);
        }

        private void hearRule(int[] told, boolean rear) {
            int one = rear ? behind : front;
            int other = rear ? front : behind;
            facts[MILES] = world.leastMiles(at, world.goal[one]);
            facts[NUMBER] = world.number[one];
            facts[STEPS] = steps;
            facts[HOUR] = world.dials[HOUR_DIAL];
            facts[BEHIND] = rear ? 1 : 0;
            facts[THEIRS] = world.number[other];
            Text rule = texts.all[world.dials[RULE_DIAL]];
            for (int part = 0; part < PARTS; part++) {
                told[part] = rule.value(part, facts, texts.stack);
            }
        }

        private static int bounded(int v) {
            return Math.max(0, Math.min(v, 99));
        }
    }

    /** The TEXTS that were read, and THE TAPE for the next. */
    private static final class Texts {
        private final Text[] all = new Text[MOST_TEXTS];
        private final Tape tape = new Tape();
        private final Reader reader = new Reader(tape);
        private final int[] stack = new int[MOST_TAPE];
        private int known;

        Texts() {
            for (int i = 0; i < MOST_TEXTS; i++) {
                all[i] = new Text();
            }
            for (int i = 0; i < FIRST_RULE.length(); i++) {
                tape.take(FIRST_RULE.charAt(i));
            }
            takeTape();
        }

        int takeTape() {
            if (known >= MOST_TEXTS) {
                return FULL;
            }
            tape.split();
            int fault = reader.readInto(all[known]);
            tape.size = 0;
            if (fault != NONE) {
                return FAULT - fault;
            }
            known++;
            return known - 1;
        }
    }

    /** A TEXT as codes: what an operation joins stands ahead of it. A code from 0 on is a NUMBER. */
    private static final class Text {
        /** The code of a NAME is this less the NAME's number. */
        static final int NAME = -1;
        static final int MINUS = -11, NOT = -12;
        static final int PLUS = -21, LESS_BY = -22, TIMES = -23, BELOW = -24, LIKE = -25, AND = -26, OR = -27;

        private final int[] codes = new int[MOST_TAPE];
        private final int[] ends = new int[PARTS];
        private int size;

        void clear() {
            size = 0;
        }

        void add(int code) {
            if (size < codes.length) {
                codes[size] = code;
                size++;
            }
        }

        void endPart(int part) {
            ends[part] = size;
        }

        int value(int part, int[] facts, int[] stack) {
            int top = 0;
            for (int i = part == 0 ? 0 : ends[part - 1]; i < ends[part]; i++) {
                int code = codes[i];
                if (code > NAME - NAMES) {
                    if (top >= stack.length) {
                        return 0;
                    }
                    stack[top] = code >= 0 ? code : facts[NAME - code];
                    top++;
                } else {
                    boolean ofTwo = code <= PLUS;
                    top -= ofTwo ? 1 : 0;
                    if (top < 1) {
                        return 0;
                    }
                    stack[top - 1] = ofTwo ? joined(code, stack[top - 1], stack[top]) : turned(code, stack[top - 1]);
                }
            }
            return top > 0 ? stack[top - 1] : 0;
        }

        private static int turned(int code, int a) {
            return code == MINUS ? -a : a == 0 ? 1 : 0;
        }

        private static int joined(int code, int a, int b) {
            switch (code) {
                case PLUS: return a + b;
                case LESS_BY: return a - b;
                case TIMES: return a * b;
                case BELOW: return a < b ? 1 : 0;
                case LIKE: return a == b ? 1 : 0;
                case AND: return a != 0 && b != 0 ? 1 : 0;
                default: return a != 0 || b != 0 ? 1 : 0;
            }
        }
    }

    /** THE TAPE, and the TOKENS that it is split into; the last is END. */
    private static final class Tape {
        /** TOKENS: WORDS by their number, SIGNS by their byte, and these. */
        static final int END = -1, NO_TOKEN = -2, NUMERAL = 20;
        /** WORDS: the KEYS of the parts are 0 .. 2, the NAMES stand behind all KEYS. */
        static final int OR = 3, AND = 4, NOT = 5, FIRST_NAME = 6, WORDS = 12;

        private final int[] bytes = new int[MOST_TAPE];
        private final int[] tokens = new int[MOST_TAPE + 1];
        private final int[] places = new int[MOST_TAPE + 1];
        private final int[] numerals = new int[MOST_TAPE + 1];
        private int size;
        private int last;

        /** Whether there was room. */
        boolean take(int letter) {
            if (size >= MOST_TAPE) {
                return false;
            }
            bytes[size] = letter;
            size++;
            return true;
        }

        void split() {
            last = 0;
            int next = 0;
            for (int i = 0; i < size; i++) {
                if (i >= next && !isBlank(bytes[i])) {
                    next = endFrom(i);
                    tokens[last] = tokenAt(i, next);
                    places[last] = i;
                    numerals[last] = tokens[last] == NUMERAL ? numeralAt(i, next) : 0;
                    last++;
                }
            }
            tokens[last] = END;
            places[last] = size;
        }

        /** The TOKEN that begins there takes all of its sort that stands next to it. */
        private int endFrom(int from) {
            boolean word = isLetter(bytes[from]);
            boolean numeral = isDigit(bytes[from]);
            for (int i = from + 1; i < size; i++) {
                if (!(word && isLetter(bytes[i]) || numeral && isDigit(bytes[i]))) {
                    return i;
                }
            }
            return size;
        }

        private int tokenAt(int from, int end) {
            int first = bytes[from];
            if (isDigit(first)) {
                return end - from > MOST_DIGITS ? NO_TOKEN : NUMERAL;
            }
            if (!isLetter(first)) {
                return isSign(first) ? first : NO_TOKEN;
            }
            for (int word = 0; word < WORDS; word++) {
                if (isSpelled(from, end, spelling(word))) {
                    return word;
                }
            }
            return NO_TOKEN;
        }

        private boolean isSpelled(int from, int end, String spelling) {
            if (spelling.length() != end - from) {
                return false;
            }
            for (int i = from; i < end; i++) {
                if (bytes[i] != spelling.charAt(i - from)) {
                    return false;
                }
            }
            return true;
        }

        private int numeralAt(int from, int end) {
            int numeral = 0;
            for (int i = from; i < end; i++) {
                numeral = numeral * 10 + bytes[i] - '0';
            }
            return numeral;
        }

        private static boolean isBlank(int letter) {
            return letter == ' ' || letter == '\n';
        }

        private static boolean isLetter(int letter) {
            return letter >= 'a' && letter <= 'z';
        }

        private static boolean isDigit(int letter) {
            return letter >= '0' && letter <= '9';
        }

        private static boolean isSign(int letter) {
            switch (letter) {
                case '(': case ')': case ';': case '+': case '-': case '*': case '<': case '=': return true;
                default: return false;
            }
        }

        private static String spelling(int word) {
            switch (word) {
                case PULLS: return "pulls";
                case MOODS: return "moods";
                case ENOUGH: return "enough";
                case OR: return "or";
                case AND: return "and";
                case NOT: return "not";
                case FIRST_NAME + MILES: return "miles";
                case FIRST_NAME + NUMBER: return "number";
                case FIRST_NAME + STEPS: return "steps";
                case FIRST_NAME + HOUR: return "hour";
                case FIRST_NAME + BEHIND: return "behind";
                default: return "theirs";
            }
        }
    }

    /** Reads the TOKENS of THE TAPE, and stops at the first that can't stand where it stands. */
    private static final class Reader {
        private final Tape tape;
        private Text text;
        private int now;
        private int token;

        Reader(Tape itsTape) {
            tape = itsTape;
        }

        /** The place of the FAULT; NONE. */
        int readInto(Text into) {
            text = into;
            text.clear();
            now = 0;
            token = tape.tokens[0];
            for (int part = 0; part < PARTS; part++) {
                if (!readPart(part)) {
                    return tape.places[now];
                }
            }
            return token == Tape.END ? NONE : tape.places[now];
        }

        /** Behind the last TOKEN stands nothing more: END stays. */
        private void advance() {
            if (now < tape.last) {
                now++;
            }
            token = tape.tokens[now];
        }

        private boolean readPart(int part) {
            if (token != part) {
                return false;
            }
            advance();
            if (!readE(0) || token != ';') {
                return false;
            }
            text.endPart(part);
            advance();
            return true;
        }

        private boolean readE(int open) {
            boolean fits = readAnd(open);
            for (int i = 0; i < MOST_TAPE && fits && token == Tape.OR; i++) {
                advance();
                fits = readAnd(open);
                text.add(Text.OR);
            }
            return fits;
        }

        private boolean readAnd(int open) {
            boolean fits = readNot(open);
            for (int i = 0; i < MOST_TAPE && fits && token == Tape.AND; i++) {
                advance();
                fits = readNot(open);
                text.add(Text.AND);
            }
            return fits;
        }

        private boolean readNot(int open) {
            if (token != Tape.NOT) {
                return readCompared(open);
            }
            if (open >= MOST_OPEN) {
                return false;
            }
            advance();
            boolean fits = readNot(open + 1);
            text.add(Text.NOT);
            return fits;
        }

        private boolean readCompared(int open) {
            boolean fits = readSum(open);
            if (fits && (token == '<' || token == '=')) {
                int code = token == '<' ? Text.BELOW : Text.LIKE;
                advance();
                fits = readSum(open);
                text.add(code);
            }
            return fits;
        }

        private boolean readSum(int open) {
            boolean fits = readTerm(open);
            for (int i = 0; i < MOST_TAPE && fits && (token == '+' || token == '-'); i++) {
                int code = token == '+' ? Text.PLUS : Text.LESS_BY;
                advance();
                fits = readTerm(open);
                text.add(code);
            }
            return fits;
        }

        private boolean readTerm(int open) {
            boolean fits = readOne(open);
            for (int i = 0; i < MOST_TAPE && fits && token == '*'; i++) {
                advance();
                fits = readOne(open);
                text.add(Text.TIMES);
            }
            return fits;
        }

        private boolean readOne(int open) {
            if (token == Tape.NUMERAL) {
                text.add(tape.numerals[now]);
                advance();
                return true;
            }
            if (token >= Tape.FIRST_NAME && token < Tape.WORDS) {
                text.add(Text.NAME - (token - Tape.FIRST_NAME));
                advance();
                return true;
            }
            if (open >= MOST_OPEN) {
                return false;
            }
            return token == '-' ? readMinus(open + 1) : token == '(' && readInside(open + 1);
        }

        private boolean readMinus(int open) {
            advance();
            boolean fits = readOne(open);
            text.add(Text.MINUS);
            return fits;
        }

        private boolean readInside(int open) {
            advance();
            if (!readE(open) || token != ')') {
                return false;
            }
            advance();
            return true;
        }
    }

    /** A SHEET; its row is long enough for any, so that none is made anew. */
    private static final class Sheet {
        private final int[] cells = new int[MOST_CELLS];
        private int sort = NONE;
        private int size;

        boolean isMissing() {
            return sort == NONE;
        }

        void become(int itsSort, int n) {
            sort = itsSort;
            size = n;
            for (int i = 0; i < MOST_CELLS; i++) {
                cells[i] = 0;
            }
        }

        void put(int i, int v) {
            cells[i] = sort == BYTES ? (byte) v : sort == SHORTS ? (short) v : v;
        }

        /** Whether n items from item i on stand in it: the size less n can't overflow, as i + n could. */
        boolean holds(int i, int n) {
            return n >= 0 && i >= 0 && i <= size - n;
        }
    }
}
