import java.lang.reflect.Constructor;
import java.lang.reflect.Field;
import java.lang.reflect.Method;
import java.lang.reflect.Modifier;
import java.util.Arrays;
import java.util.Set;
import java.util.TreeSet;
import java.util.regex.Matcher;
import java.util.regex.Pattern;
import java.util.stream.Collectors;

/** The face of the document, with rules 1 and 12 of LANGUAGE.md; LanguageTest looks at what is inside. */
public final class FaceTest {
    private static final String FACE = "int set(int,int,int) int road(int,int,int) int person(int,int,int) "
        + "int told(int,int) int asks(int,int,int,int,int) int feed(int) int text() int force(int) "
        + "int ride(int,int,int,int) int goes(int,int,int) int far(int,int) int best(int,int,int) "
        + "int from(int,int) int together(int,int) int shut(int,int,int,int) int tells(int,int,int,int) "
        + "int film(int,int,int,int) int drawn(int,int,int) long chance(int,int,int,int) int image() int back() "
        + "int count(int) int sheet(int,int,int) int cell(int,int,int) int copy(int,int,int,int,int) "
        + "int people(int,int,int,int) int taken(int,int)";
    private static final String CONSTANTS = "int NONE int BAD int STATE int FULL long NO";

    public static void main(String[] args) {
        face();
        makesLittle();
        Check.end();
    }

    private static void same(String what, Set<String> got, Set<String> want) {
        if (!got.equals(want)) {
            System.out.println(what + ": " + got);
        }
        Check.due(what, got.equals(want) ? 1 : 0, 1);
    }

    private static Set<String> listed(String pairs) {
        return new TreeSet<>(Arrays.asList(pairs.split(" (?=int |long )")));
    }

    private static void face() {
        Class<?> c = TandemKeepsAPlace.class;
        Check.due("final", c.getModifiers() & (Modifier.FINAL | Modifier.PUBLIC), Modifier.FINAL | Modifier.PUBLIC);
        same("public methods", open(c.getDeclaredMethods()), listed(FACE));
        Set<String> constants = new TreeSet<>();
        for (Field f : c.getDeclaredFields()) {
            if (!Modifier.isPrivate(f.getModifiers()) && !f.isSynthetic()) {
                constants.add(f.getType() + " " + f.getName());
                Check.due(f.getName() + " is a constant", f.getModifiers(), Modifier.PUBLIC | Modifier.STATIC | Modifier.FINAL);
            }
            boolean fixed = !Modifier.isStatic(f.getModifiers()) || Modifier.isFinal(f.getModifiers());
            Check.due(f.getName() + " is no other static state", fixed ? 1 : 0, 1);
        }
        same("constants", constants, listed(CONSTANTS));
        Constructor<?>[] constructors = c.getDeclaredConstructors();
        Check.due("one constructor", constructors.length, 1);
        Check.due("of nothing", constructors[0].getParameterCount(), 0);
        for (Class<?> inside : c.getDeclaredClasses()) {
            Check.due(inside + " is static", Modifier.isStatic(inside.getModifiers()) ? 1 : 0, 1);
            Check.due(inside + " is not open", inside.getModifiers() & (Modifier.PUBLIC | Modifier.PROTECTED), 0);
            privateNames(inside);
        }
        privateNames(c);
        Check.due("NONE", TandemKeepsAPlace.NONE, -1);
        Check.due("BAD", TandemKeepsAPlace.BAD, -2);
        Check.due("STATE", TandemKeepsAPlace.STATE, -3);
        Check.due("FULL", TandemKeepsAPlace.FULL, -4);
        Check.due("NO", TandemKeepsAPlace.NO, -4611686018427387904L);
    }

    private static Set<String> open(Method[] methods) {
        Set<String> open = new TreeSet<>();
        for (Method m : methods) {
            if (!Modifier.isPrivate(m.getModifiers()) && !m.isSynthetic()) {
                String types = Arrays.stream(m.getParameterTypes()).map(Class::getName).collect(Collectors.joining(","));
                open.add(m.getReturnType() + " " + m.getName() + "(" + types + ")");
            }
        }
        return open;
    }

    private static void privateNames(Class<?> c) {
        Set<String> names = new TreeSet<>();
        Matcher name = Pattern.compile("(\\w+)\\(").matcher(FACE);
        while (name.find()) {
            names.add(name.group(1));
        }
        for (Method m : c.getDeclaredMethods()) {
            boolean clash = names.contains(m.getName()) && !Modifier.isPublic(m.getModifiers());
            Check.due(m.getName() + " has a name of its own", clash ? 1 : 0, 0);
        }
    }

    /** Calls make nothing: the room of a run is what its objects take when they are new. */
    private static void makesLittle() {
        TandemKeepsAPlace x = new TandemKeepsAPlace();
        for (int turn = 0; turn < 3; turn++) {
            allCalls(x);
        }
        long before = bytesMade();
        for (int turn = 0; turn < 10; turn++) {
            allCalls(x);
        }
        long made = bytesMade() - before;
        Check.due("bytes made by calls: " + made, made < 10_000 ? 1 : 0, 1);
        before = bytesMade();
        TandemKeepsAPlace another = new TandemKeepsAPlace();
        made = bytesMade() - before;
        Check.due("bytes of a new object: " + made, made < 20_000 && another.count(0) == 0 ? 1 : 0, 1);
    }

    private static long bytesMade() {
        return ((com.sun.management.ThreadMXBean) java.lang.management.ManagementFactory.getThreadMXBean())
            .getCurrentThreadAllocatedBytes();
    }

    private static void allCalls(TandemKeepsAPlace x) {
        x.road(0, 1, 5);
        x.road(1, 2, 7);
        x.person(0, 1, 2);
        x.person(3, 4, 0);
        x.set(0, 0, 5);
        x.told(0, 5);
        x.asks(0, 1, 0, 0, 5);
        x.feed('p');
        x.text();
        x.force(0);
        x.ride(0, 1, 0, 3);
        x.goes(0, 1, 0);
        x.far(0, 2);
        x.best(0, 0, 1);
        x.from(0, 1);
        x.together(0, 0);
        x.shut(0, 1, 0, 0);
        x.sheet(1, 0, 20);
        for (int what = 0; what < 7; what++) {
            x.tells(1, 1, 0, what);
        }
        x.film(0, 1, 0, 20);
        x.drawn(7, 1, 0);
        x.chance(7, 20, 1, 0);
        x.image();
        x.back();
        x.count(1);
        x.cell(0, 0, 1);
        x.copy(0, 0, 1, 0, 20);
        x.people(1, 0, 0, 6);
        x.taken(0, 0);
    }
}
