import java.util.ArrayList;
import java.util.Arrays;
import java.util.List;

/** The document once more, in another plain form and by the whole Java library, to compare the class with. */
final class Model {
    /** Of one on a tandem: miles, number, steps, hour, behind, theirs. */
    private interface E {
        int of(int[] facts);
    }

    private static final class Fault extends Exception {
        private static final long serialVersionUID = 1;
        final int place;

        Fault(int place) {
            this.place = place;
        }
    }

    private static final class Person implements Cloneable {
        int kind;
        int number;
        int goal;
        int ridden;

        Person(int kind, int number, int goal, int ridden) {
            this.kind = kind;
            this.number = number;
            this.goal = goal;
            this.ridden = ridden;
        }

        Person again() {
            return new Person(kind, number, goal, ridden);
        }
    }

    private static final class Ride {
        final List<Integer> at = new ArrayList<>();
        int miles;
        int byFront;

        int place(int s) {
            return at.get(Math.min(s, at.size() - 1));
        }

        int end() {
            return at.get(at.size() - 1);
        }
    }

    private static final String[] NAMES = {"miles", "number", "steps", "hour", "behind", "theirs"};
    private static final List<String> KEYS = Arrays.asList("pulls", "moods", "enough", "or", "and", "not");

    private int[][] roads = new int[8][8];
    private int hour = 9;
    private List<Person> people = new ArrayList<>();
    private final List<E[]> texts = new ArrayList<>();
    private int rule = 0;
    private final StringBuilder tape = new StringBuilder();
    private final int[][] sheets = new int[4][];
    private final int[] sorts = new int[4];
    private int[][] keptRoads;
    private int keptHour;
    private int keptRule;
    private List<Person> keptPeople;

    Model() {
        texts.add(new E[] {
            f -> 10 + f[1] - f[2],
            f -> f[1],
            f -> 12 < f[2] ? 1 : 0});
    }

    // ---- what a tandem does

    private int far(int[][] map, int one, int other, int[] best) {
        Arrays.fill(best, Integer.MAX_VALUE);
        best[one] = 0;
        for (boolean better = true; better;) {
            better = false;
            for (int a = 0; a < 8; a++) {
                for (int b = 0; b < 8; b++) {
                    if (map[a][b] > 0 && best[a] < Integer.MAX_VALUE && best[a] + map[a][b] < best[b]) {
                        best[b] = best[a] + map[a][b];
                        better = true;
                    }
                }
            }
        }
        return best[other] == Integer.MAX_VALUE ? -1 : best[other];
    }

    private int distance(int one, int other) {
        return far(roads, one, other, new int[8]);
    }

    private int tell(int part, int one, int other, int at, int s, boolean rear) {
        Person who = people.get(one);
        int miles = distance(at, who.goal);
        int[] facts = {miles < 0 ? 999 : miles, who.number, s, hour, rear ? 1 : 0, people.get(other).number};
        return texts.get(rule)[part].of(facts);
    }

    private int pull(int kind, int v, int number, boolean rear) {
        int answer = 0;
        switch (kind) {
            case 0: answer = v; break;
            case 1: answer = rear ? pull(0, v, number, rear) / 2 : pull(0, v, number, rear); break;
            case 2: answer = pull(0, v, number, rear) + number; break;
            case 3: answer = pull(1, v, number, rear) * (hour < 12 ? 2 : 1); break;
            case 4: answer = rear ? pull(2, v, number, rear) + 10 : 0; break;
            case 5: answer = 1; break;
            default: throw new IllegalStateException();
        }
        return Math.min(999, Math.max(0, answer));
    }

    private int mood(int kind, int v, int number) {
        int answer = 0;
        switch (kind) {
            case 0: answer = v; break;
            case 1: answer = mood(0, v, number) - 3; break;
            case 2: answer = mood(0, v, number); break;
            case 3: answer = Math.max(0, mood(1, v, number)); break;
            case 4: answer = mood(2, v, number) + number; break;
            case 5: answer = mood(0, v, number) / 2; break;
            default: throw new IllegalStateException();
        }
        return Math.min(999, Math.max(0, answer));
    }

    private boolean enough(int kind, boolean yes, int number, int s) {
        switch (kind) {
            case 0: return yes;
            case 1: case 3: return yes || s >= 9;
            case 2: return yes && s > number;
            case 4: return false;
            default: return s >= number;
        }
    }

    private int pullOf(int one, int other, int at, int s, boolean rear) {
        int v = Math.min(99, Math.max(0, tell(0, one, other, at, s, rear)));
        return pull(people.get(one).kind, v, people.get(one).number, rear);
    }

    private int moodOf(int one, int other, int at, int s, boolean rear) {
        int v = Math.min(99, Math.max(0, tell(1, one, other, at, s, rear)));
        return mood(people.get(one).kind, v, people.get(one).number);
    }

    private boolean enoughOf(int one, int other, int at, int s, boolean rear) {
        Person who = people.get(one);
        return enough(who.kind, tell(2, one, other, at, s, rear) != 0, who.number, s);
    }

    private int steers(int front, int behind, int at, int s) {
        int infront = pullOf(front, behind, at, s, false) + moodOf(front, behind, at, s, false);
        int rear = pullOf(behind, front, at, s, true) + moodOf(behind, front, at, s, true);
        return infront >= rear ? front : behind;
    }

    private Ride rideOf(int front, int behind, int from) {
        Ride r = new Ride();
        r.at.add(from);
        int at = from;
        int s = 0;
        while (s < 40) {
            int who = steers(front, behind, at, s);
            int goal = people.get(who).goal;
            if (enoughOf(front, behind, at, s, false) && enoughOf(behind, front, at, s, true)) {
                break;
            }
            if (at == goal || distance(at, goal) < 0) {
                break;
            }
            int next = -1;
            int least = Integer.MAX_VALUE;
            for (int p = 7; p >= 0; p--) {
                int on = distance(p, goal);
                if (roads[at][p] > 0 && on >= 0 && roads[at][p] + on <= least) {
                    least = roads[at][p] + on;
                    next = p;
                }
            }
            r.miles += roads[at][next];
            r.byFront += who == front ? 1 : 0;
            at = next;
            s++;
            r.at.add(at);
        }
        return r;
    }

    // ---- reading a text

    private String source;
    private int next;
    private int open;

    private void blanks() {
        while (next < source.length() && (source.charAt(next) == ' ' || source.charAt(next) == '\n')) {
            next++;
        }
    }

    /** The token that stands next ("" at the end), or a fault where a byte, word or number is none. */
    private String peek() throws Fault {
        blanks();
        if (next == source.length()) {
            return "";
        }
        String rest = source.substring(next);
        String word = rest.replaceAll("(?s)^([a-z]+).*$", "$1");
        if (rest.matches("(?s)^[a-z].*")) {
            if (!KEYS.contains(word) && !Arrays.asList(NAMES).contains(word)) {
                throw new Fault(next);
            }
            return word;
        }
        if (rest.matches("(?s)^[0-9].*")) {
            String digits = rest.replaceAll("(?s)^([0-9]+).*$", "$1");
            if (digits.length() > 4) {
                throw new Fault(next);
            }
            return digits;
        }
        if ("();+-*<=".indexOf(rest.charAt(0)) < 0) {
            throw new Fault(next);
        }
        return rest.substring(0, 1);
    }

    private boolean takes(String token) throws Fault {
        if (!peek().equals(token)) {
            return false;
        }
        next += token.length();
        return true;
    }

    private void must(String token) throws Fault {
        if (!takes(token)) {
            throw new Fault(next);
        }
    }

    private void opens() throws Fault {
        if (open == 5) {
            throw new Fault(next);
        }
        open++;
    }

    private E readE() throws Fault {
        E left = readAnd();
        while (takes("or")) {
            E a = left;
            E b = readAnd();
            left = f -> a.of(f) != 0 | b.of(f) != 0 ? 1 : 0;
        }
        return left;
    }

    private E readAnd() throws Fault {
        E left = readNot();
        while (takes("and")) {
            E a = left;
            E b = readNot();
            left = f -> a.of(f) != 0 & b.of(f) != 0 ? 1 : 0;
        }
        return left;
    }

    private E readNot() throws Fault {
        if (peek().equals("not")) {
            opens();
            must("not");
            E a = readNot();
            open--;
            return f -> a.of(f) == 0 ? 1 : 0;
        }
        E a = readSum();
        if (takes("<")) {
            E b = readSum();
            return f -> a.of(f) < b.of(f) ? 1 : 0;
        }
        if (takes("=")) {
            E b = readSum();
            return f -> a.of(f) == b.of(f) ? 1 : 0;
        }
        return a;
    }

    private E readSum() throws Fault {
        E left = readTerm();
        while (true) {
            E a = left;
            if (takes("+")) {
                E b = readTerm();
                left = f -> a.of(f) + b.of(f);
            } else if (takes("-")) {
                E b = readTerm();
                left = f -> a.of(f) - b.of(f);
            } else {
                return left;
            }
        }
    }

    private E readTerm() throws Fault {
        E left = readOne();
        while (takes("*")) {
            E a = left;
            E b = readOne();
            left = f -> a.of(f) * b.of(f);
        }
        return left;
    }

    private E readOne() throws Fault {
        String token = peek();
        if (token.equals("-")) {
            opens();
            must("-");
            E a = readOne();
            open--;
            return f -> -a.of(f);
        }
        if (token.equals("(")) {
            opens();
            must("(");
            E a = readE();
            must(")");
            open--;
            return a;
        }
        if (token.matches("[0-9]+")) {
            must(token);
            int v = Integer.parseInt(token);
            return f -> v;
        }
        int name = Arrays.asList(NAMES).indexOf(token);
        if (name < 0) {
            throw new Fault(next);
        }
        must(token);
        return f -> f[name];
    }

    // ---- refusals

    private boolean none(int one) {
        return one < 0 || one >= people.size();
    }

    private boolean noTwo(int front, int behind) {
        return none(front) || none(behind) || front == behind;
    }

    private boolean noTwo(int two) {
        return two < 0 || noTwo(two / 10, two % 10);
    }

    private static boolean out(int v, int least, int most) {
        return v < least || v > most;
    }

    // ---- the face

    public int set(int what, int of, int v) {
        if (what == 0) {
            if (out(v, 0, 23)) {
                return -2;
            }
            int was = hour;
            hour = v;
            return was;
        }
        if (out(what, 1, 2) || none(of) || out(v, 0, what == 1 ? 9 : 7)) {
            return -2;
        }
        Person who = people.get(of);
        int was = what == 1 ? who.number : who.goal;
        if (what == 1) {
            who.number = v;
        } else {
            who.goal = v;
        }
        return was;
    }

    public int road(int one, int other, int miles) {
        if (out(one, 0, 7) || out(other, 0, 7) || one == other || out(miles, 0, 99)) {
            return -2;
        }
        int was = roads[one][other];
        roads[one][other] = miles;
        roads[other][one] = miles;
        return was;
    }

    public int person(int kind, int number, int goal) {
        if (out(kind, 0, 5) || out(number, 0, 9) || out(goal, 0, 7)) {
            return -2;
        }
        if (people.size() == 6) {
            return -4;
        }
        people.add(new Person(kind, number, goal, 0));
        return people.size() - 1;
    }

    public int told(int of, int what) {
        if (what == 0) {
            return hour;
        }
        if (out(what, 1, 5) || none(of)) {
            return -2;
        }
        Person who = people.get(of);
        if (what < 5) {
            return new int[] {who.number, who.goal, who.kind, who.ridden}[what - 1];
        }
        int bits = 0;
        for (int q = 0; q < people.size(); q++) {
            boolean all = q != of;
            for (int p = 0; p < 8 && all; p++) {
                all = steers(q, of, p, 0) == of;
            }
            bits += all ? 1 << q : 0;
        }
        return bits;
    }

    public int asks(int front, int behind, int at, int s, int what) {
        if (noTwo(front, behind) || out(at, 0, 7) || out(s, 0, 40) || out(what, 0, 5)) {
            return -2;
        }
        switch (what) {
            case 0: return pullOf(front, behind, at, s, false);
            case 1: return pullOf(behind, front, at, s, true);
            case 2: return moodOf(front, behind, at, s, false);
            case 3: return moodOf(behind, front, at, s, true);
            case 4:
                return (enoughOf(front, behind, at, s, false) ? 1 : 0) | (enoughOf(behind, front, at, s, true) ? 2 : 0);
            default: return steers(front, behind, at, s);
        }
    }

    public int feed(int letter) {
        if (out(letter, 0, 255)) {
            return -2;
        }
        if (tape.length() == 160) {
            return -4;
        }
        tape.append((char) letter);
        return tape.length();
    }

    public int text() {
        if (texts.size() == 6) {
            return -4;
        }
        source = tape.toString();
        tape.setLength(0);
        next = 0;
        open = 0;
        try {
            E[] parts = new E[3];
            for (int part = 0; part < 3; part++) {
                must(KEYS.get(part));
                parts[part] = readE();
                must(";");
            }
            must("");
            texts.add(parts);
            return texts.size() - 1;
        } catch (Fault fault) {
            return -100 - fault.place;
        }
    }

    public int force(int text) {
        if (out(text, 0, texts.size() - 1)) {
            return -2;
        }
        int was = rule;
        rule = text;
        return was;
    }

    public int ride(int front, int behind, int from, int what) {
        if (noTwo(front, behind) || out(from, 0, 7) || out(what, 0, 5) && out(what, 10, 50)) {
            return -2;
        }
        Ride r = rideOf(front, behind, from);
        switch (what) {
            case 0: return r.end();
            case 1: return r.at.size() - 1;
            case 2: return r.miles;
            case 3: return r.at.stream().distinct().count() < r.at.size() ? 1 : 0;
            case 4: return r.at.stream().mapToInt(p -> 1 << p).reduce(0, (a, b) -> a | b);
            case 5: return r.byFront;
            default: return r.place(what - 10);
        }
    }

    public int goes(int front, int behind, int from) {
        if (noTwo(front, behind) || out(from, 0, 7)) {
            return -2;
        }
        Ride r = rideOf(front, behind, from);
        for (int one : new int[] {front, behind}) {
            people.get(one).ridden = Math.min(99999, people.get(one).ridden + r.miles);
        }
        return r.miles;
    }

    public int far(int one, int other) {
        return out(one, 0, 7) || out(other, 0, 7) ? -2 : distance(one, other);
    }

    public int best(int front, int from, int what) {
        if (none(front) || out(from, 0, 7) || out(what, 0, 1)) {
            return -2;
        }
        int best = -1;
        int least = -1;
        for (int q = people.size() - 1; q >= 0; q--) {
            if (q != front) {
                Ride r = rideOf(front, q, from);
                if (r.end() == people.get(front).goal && (best < 0 || r.miles <= least)) {
                    best = q;
                    least = r.miles;
                }
            }
        }
        return what == 0 ? best : least;
    }

    public int from(int front, int behind) {
        if (noTwo(front, behind)) {
            return -2;
        }
        int bits = 0;
        for (int p = 0; p < 8; p++) {
            bits |= rideOf(front, behind, p).end() == people.get(front).goal ? 1 << p : 0;
        }
        return bits;
    }

    /** All ways in the order that the document tells, each as digits. */
    private static void ways(List<Integer> left, String way, List<String> all) {
        if (left.isEmpty()) {
            all.add(way);
            return;
        }
        for (int i = 1; i < left.size(); i++) {
            List<Integer> rest = new ArrayList<>(left);
            rest.remove(i);
            rest.remove(0);
            ways(rest, way + (left.get(0) + 1) + (left.get(i) + 1), all);
        }
        if (left.size() % 2 == 1) {
            ways(left.subList(1, left.size()), way, all);
        }
    }

    public int together(int from, int what) {
        if (out(from, 0, 7) || out(what, 0, 1)) {
            return -2;
        }
        List<Integer> everyone = new ArrayList<>();
        for (int i = 0; i < people.size(); i++) {
            everyone.add(i);
        }
        List<String> all = new ArrayList<>();
        ways(everyone, "", all);
        int least = Integer.MAX_VALUE;
        String best = "";
        for (String way : all) {
            int miles = 0;
            for (int i = 0; i < way.length(); i += 2) {
                miles += rideOf(way.charAt(i) - '1', way.charAt(i + 1) - '1', from).miles;
            }
            if (miles < least) {
                least = miles;
                best = way;
            }
        }
        return what == 1 ? least : best.isEmpty() ? 0 : Integer.parseInt(best);
    }

    public int shut(int front, int behind, int from, int what) {
        if (noTwo(front, behind) || out(from, 0, 7) || out(what, 0, 1)) {
            return -2;
        }
        int longest = rideOf(front, behind, from).miles;
        int worst = -1;
        for (int code = 1; code < 78; code++) {
            int a = code / 10;
            int b = code % 10;
            if (a < b && b < 8 && roads[a][b] > 0) {
                int was = road(a, b, 0);
                int miles = rideOf(front, behind, from).miles;
                road(a, b, was);
                if (miles > longest) {
                    longest = miles;
                    worst = code;
                }
            }
        }
        return what == 0 ? worst : longest;
    }

    private int otherwise(int[] seen, int front, int behind, int from) {
        Ride r = rideOf(front, behind, from);
        for (int i = 0; i < seen.length; i++) {
            if (r.place(i) != seen[i]) {
                return i;
            }
        }
        return -1;
    }

    public int tells(int sheet, int two, int from, int what) {
        if (out(sheet, 0, 3) || noTwo(two) || out(from, 0, 7) || out(what, 0, 6)) {
            return -2;
        }
        int[] seen = sheets[sheet];
        if (seen == null) {
            return -11;
        }
        if (seen.length > 20) {
            return -2;
        }
        int front = two / 10;
        int behind = two % 10;
        if (what == 0) {
            return otherwise(seen, front, behind, from);
        }
        int bits = 0;
        int[] bounds = {0, people.size(), 6, 10, 8, 24, texts.size()};
        for (int v = 0; v < bounds[what]; v++) {
            Person was = people.get(behind).again();
            int wasHour = hour;
            int wasRule = rule;
            int q = what == 1 ? v : behind;
            Person who = people.get(behind);
            who.kind = what == 2 ? v : who.kind;
            who.number = what == 3 ? v : who.number;
            who.goal = what == 4 ? v : who.goal;
            hour = what == 5 ? v : hour;
            rule = what == 6 ? v : rule;
            bits |= q != front && otherwise(seen, front, q, from) < 0 ? 1 << v : 0;
            people.set(behind, was);
            hour = wasHour;
            rule = wasRule;
        }
        return bits;
    }

    public int film(int sheet, int two, int from, int n) {
        if (out(sheet, 0, 3) || noTwo(two) || out(from, 0, 7) || out(n, 0, 20)) {
            return -2;
        }
        Ride r = rideOf(two / 10, two % 10, from);
        goes(two / 10, two % 10, from);
        sheets[sheet] = new int[n];
        sorts[sheet] = 0;
        for (int i = 0; i < n; i++) {
            sheets[sheet][i] = r.place(i);
        }
        return n;
    }

    private List<Person> copyOf(List<Person> all) {
        List<Person> again = new ArrayList<>();
        all.forEach(p -> again.add(p.again()));
        return again;
    }

    private Ride drawnRide(int seed, int two, int from, boolean[] ends) {
        List<Person> was = copyOf(people);
        int z = seed;
        for (Person p : people) {
            z = (int) (z * 1103515245L + 12345L);
            p.goal = (int) (Integer.toUnsignedLong(z) / 512 % 8);
        }
        Ride r = rideOf(two / 10, two % 10, from);
        ends[0] = r.end() == people.get(two / 10).goal;
        people = was;
        return r;
    }

    public int drawn(int seed, int two, int from) {
        return noTwo(two) || out(from, 0, 7) ? -2 : drawnRide(seed, two, from, new boolean[1]).miles;
    }

    public long chance(int seed, int m, int two, int part) {
        if (out(m, 1, 20) || noTwo(two) || out(part, 0, 1)) {
            return -4611686018427387904L;
        }
        int good = 0;
        for (int i = 0; i < m; i++) {
            boolean[] ends = new boolean[1];
            drawnRide((int) ((long) seed + i), two, 0, ends);
            good += ends[0] ? 1 : 0;
        }
        int shared = java.math.BigInteger.valueOf(good).gcd(java.math.BigInteger.valueOf(m)).intValue();
        return part == 0 ? good / shared : m / shared;
    }

    private static int[][] copyOf(int[][] map) {
        return Arrays.stream(map).map(int[]::clone).toArray(int[][]::new);
    }

    public int image() {
        keptRoads = copyOf(roads);
        keptHour = hour;
        keptRule = rule;
        keptPeople = copyOf(people);
        return people.size();
    }

    public int back() {
        if (keptRoads == null) {
            return -3;
        }
        roads = copyOf(keptRoads);
        hour = keptHour;
        rule = keptRule;
        people = copyOf(keptPeople);
        return people.size();
    }

    public int count(int what) {
        switch (what) {
            case 0: return people.size();
            case 1: return (int) Arrays.stream(roads).flatMapToInt(Arrays::stream).filter(m -> m > 0).count() / 2;
            case 2: return people.stream().mapToInt(p -> p.ridden).sum();
            case 3: return texts.size();
            case 4: return tape.length();
            case 5: return rule;
            default: return -2;
        }
    }

    public int sheet(int sheet, int sort, int n) {
        if (out(sheet, 0, 3) || out(sort, -1, 2)) {
            return -2;
        }
        if (sort >= 0 && n > 40) {
            return -2;
        }
        if (sort >= 0 && n < 0) {
            return -14;
        }
        sheets[sheet] = sort < 0 ? null : new int[n];
        sorts[sheet] = sort;
        return 1;
    }

    public int cell(int sheet, int i, int v) {
        if (out(sheet, 0, 3)) {
            return -2;
        }
        if (sheets[sheet] == null) {
            return -11;
        }
        if (out(i, 0, sheets[sheet].length - 1)) {
            return -12;
        }
        int bits = 8 << sorts[sheet];
        sheets[sheet][i] = v << 32 - bits >> 32 - bits;
        return 1;
    }

    public int copy(int sheet, int i, int other, int j, int n) {
        if (out(sheet, 0, 3) || out(other, 0, 3)) {
            return -2;
        }
        if (sheets[sheet] == null || sheets[other] == null) {
            return -11;
        }
        if (sorts[sheet] != sorts[other]) {
            return -13;
        }
        long lastI = (long) i + n;
        long lastJ = (long) j + n;
        if (i < 0 || j < 0 || n < 0 || lastI > sheets[sheet].length || lastJ > sheets[other].length) {
            return -12;
        }
        int[] were = sheets[sheet].clone();
        for (int k = 0; k < n; k++) {
            sheets[other][j + k] = were[i + k];
        }
        return n;
    }

    public int people(int sheet, int sort, int from, int n) {
        if (out(sheet, 0, 3) || out(sort, 0, 2) || out(n, 0, 6)) {
            return -2;
        }
        if (sheets[sheet] != null && sorts[sheet] != sort) {
            return -13;
        }
        if (sheets[sheet] == null) {
            return -11;
        }
        int came = 0;
        for (int k = 0; k < n; k++) {
            int[] three = new int[3];
            for (int part = 0; part < 3; part++) {
                long i = (long) from + 3 * k + part;
                if (i < 0 || i >= sheets[sheet].length) {
                    return -12;
                }
                three[part] = sheets[sheet][(int) i];
            }
            came += person(three[0], three[1], three[2]) >= 0 ? 1 : 0;
        }
        return came;
    }

    public int taken(int one, int k) {
        if (out(k, 0, 5)) {
            return -2;
        }
        if (none(one)) {
            return -11;
        }
        String[] lines = {"0", "01", "02", "013", "024", "05"};
        Person who = people.get(one);
        return lines[who.kind].indexOf('0' + k) >= 0 ? who.number : -13;
    }
}
