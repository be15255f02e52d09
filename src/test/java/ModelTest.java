import java.lang.reflect.Method;
import java.util.ArrayList;
import java.util.Arrays;
import java.util.Comparator;
import java.util.List;
import java.util.Random;

/** Random runs of 512 calls, each answer compared with the Model's; the arguments are wild at times. */
public final class ModelTest {
    private static final int RUNS = 1500, CALLS = 512;
    private static final int[] WILD = {
        -1, -2, -10, 5, 6, 7, 8, 9, 10, 11, 20, 21, 23, 24, 40, 41, 50, 51, 99, 100, 160, 255, 256,
        Integer.MAX_VALUE, Integer.MIN_VALUE, Integer.MAX_VALUE - 1, 65536, 65537, -128, 128};
    private static final String[] BITS = {
        "miles", "number", "steps", "hour", "behind", "theirs", "0", "1", "2", "9", "17", "9999", "00"};

    private final Random random;
    private final TandemKeepsAPlace x = new TandemKeepsAPlace();
    private final Model model = new Model();
    private final int run;
    private final List<String> calls = new ArrayList<>();
    private final boolean wild;

    private ModelTest(int run) {
        this.run = run;
        random = new Random(run);
        wild = run % 5 == 0;
    }

    public static void main(String[] args) throws Exception {
        int wrong = 0;
        for (int run = 1; run <= RUNS && wrong < 3; run++) {
            wrong += new ModelTest(run).goesWrong() ? 1 : 0;
        }
        System.out.println(wrong == 0 ? RUNS + " runs of " + CALLS + " calls as the model answers" : "runs went wrong");
        if (wrong != 0) {
            System.exit(1);
        }
    }

    private static List<Method> face() {
        List<Method> face = new ArrayList<>(Arrays.asList(TandemKeepsAPlace.class.getDeclaredMethods()));
        face.removeIf(m -> !java.lang.reflect.Modifier.isPublic(m.getModifiers()));
        face.sort(Comparator.comparing(Method::getName));
        return face;
    }

    private boolean goesWrong() throws Exception {
        List<Method> face = face();
        while (calls.size() < CALLS) {
            String text = calls.size() < CALLS / 2 && random.nextInt(20) == 0 ? text() : "";
            for (int i = 0; i < text.length(); i++) {
                if (differs(TandemKeepsAPlace.class.getMethod("feed", int.class), text.charAt(i))) {
                    return true;
                }
            }
            Method m = face.get(random.nextInt(face.size()));
            if (!text.isEmpty()) {
                m = TandemKeepsAPlace.class.getMethod("text");
            } else if (calls.size() < 30 && random.nextBoolean()) {
                m = TandemKeepsAPlace.class.getMethod(random.nextInt(3) == 0 ? "person" : "road",
                    int.class, int.class, int.class);
            } else if (m.getName().equals("feed") || isSeldom(m.getName()) && random.nextInt(4) != 0) {
                continue;
            }
            if (differs(m, arguments(m))) {
                return true;
            }
        }
        return false;
    }

    /** So that texts, people and roads last for some rides. */
    private static boolean isSeldom(String name) {
        return name.equals("back") || name.equals("text") || name.equals("sheet");
    }

    private boolean differs(Method m, Object... arguments) throws Exception {
        Object want = Model.class.getMethod(m.getName(), m.getParameterTypes()).invoke(model, arguments);
        Object got;
        calls.add(m.getName() + Arrays.toString(arguments));
        try {
            got = m.invoke(x, arguments);
        } catch (java.lang.reflect.InvocationTargetException thrown) {
            got = thrown.getCause();
        }
        if (got.equals(want)) {
            return false;
        }
        System.out.println("run " + run + ": " + String.join(" ", calls) + " answered " + got + ", due is " + want);
        return true;
    }

    private Object[] arguments(Method m) {
        Object[] arguments = new Object[m.getParameterCount()];
        for (int i = 0; i < arguments.length; i++) {
            boolean wildOne = random.nextInt(wild ? 6 : 60) == 0;
            arguments[i] = wildOne ? WILD[random.nextInt(WILD.length)] : tame(m.getName() + i);
        }
        return arguments;
    }

    /** What that argument of that call mostly is. */
    private int tame(String which) {
        int place = random.nextInt(8);
        int one = Math.max(0, Math.min(5, random.nextInt(model.count(0) + 1)));
        int two = 10 * random.nextInt(Math.max(1, model.count(0))) + random.nextInt(Math.max(1, model.count(0)));
        int sheet = random.nextInt(3);
        switch (which) {
            case "set0": return random.nextInt(3);
            case "set2": return place;
            case "road2": return random.nextInt(4) == 0 ? 0 : 1 + random.nextInt(random.nextBoolean() ? 9 : 99);
            case "person0": return random.nextInt(6);
            case "person1": return random.nextInt(10);
            case "told1": return random.nextInt(6);
            case "asks3": return random.nextInt(41);
            case "asks4": return random.nextInt(6);
            case "force0": return random.nextInt(Math.max(1, model.count(3)));
            case "ride3": return random.nextBoolean() ? random.nextInt(6) : 10 + random.nextInt(41);
            case "best2": case "together1": case "shut3": case "chance3": return random.nextInt(2);
            case "tells0": case "film0": case "sheet0": case "cell0": case "copy0": case "copy2": case "people0":
                return sheet;
            case "tells1": case "film1": case "drawn1": case "chance2": return two;
            case "tells3": return random.nextInt(7);
            case "film3": return random.nextInt(random.nextBoolean() ? 4 : 21);
            case "drawn0": case "chance0": return random.nextInt();
            case "chance1": return 1 + random.nextInt(20);
            case "count0": return random.nextInt(6);
            case "sheet1": return random.nextInt(4) - 1;
            case "sheet2": return random.nextInt(41);
            case "cell1": return random.nextInt(10);
            case "cell2": return random.nextInt(10);
            case "copy1": case "copy3": case "copy4": case "people2": case "people3": return random.nextInt(5);
            case "people1": return random.nextInt(3);
            case "taken1": return random.nextInt(6);
            case "road0": case "road1": case "asks2": case "ride2": case "goes2": case "far0": case "far1":
            case "best1": case "together0": case "shut2": case "tells2": case "film2": case "drawn2": case "person2":
                return place;
            default: return one;
        }
    }

    private String text() {
        StringBuilder text = new StringBuilder();
        for (String key : new String[] {"pulls ", "moods ", "enough "}) {
            text.append(key);
            addE(text, 0);
            text.append(random.nextInt(3) == 0 ? " ;\n" : ";");
        }
        if (random.nextInt(3) == 0) {
            spoil(text);
        }
        return text.length() > 162 ? text.substring(0, 162) : text.toString();
    }

    private void addE(StringBuilder text, int depth) {
        String[] between = {"+", "-", "*", " - ", "<", "=", " and ", " or ", " + ", "*"};
        int parts = 1 + random.nextInt(random.nextInt(4) + 1);
        for (int i = 0; i < parts; i++) {
            text.append(i == 0 ? "" : between[random.nextInt(between.length)]);
            int sort = random.nextInt(12);
            if (sort == 0 && depth < 7) {
                text.append("(");
                addE(text, depth + 1);
                text.append(")");
            } else {
                text.append(sort == 1 ? "-" : sort == 2 && i == 0 ? "not " : "");
                text.append(BITS[random.nextInt(BITS.length)]);
            }
        }
    }

    private void spoil(StringBuilder text) {
        String bytes = "();+-*<=  \n\t09azA{`/:not or-((";
        for (int i = 0; i <= random.nextInt(3); i++) {
            int at = random.nextInt(text.length());
            char letter = bytes.charAt(random.nextInt(bytes.length()));
            switch (random.nextInt(4)) {
                case 0: text.deleteCharAt(at); break;
                case 1: text.insert(at, letter); break;
                case 2: text.setCharAt(at, letter); break;
                default: text.insert(at, "(((-not ".substring(random.nextInt(4))); break;
            }
        }
    }
}
