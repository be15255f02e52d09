import java.lang.reflect.InvocationTargetException;
import java.lang.reflect.Method;
import java.util.ArrayList;
import java.util.Arrays;
import java.util.List;
import java.util.Map;
import java.util.Set;

/**
 * Rows of calls under a sentence of the document, each with the answer that is due, on a new object and on a new
 * Model:
 * <pre>
 * road(0, 7, 99) = 0               a call
 * far({-1 8 MIN MAX}, 0) = BAD     a call for each of these
 * tape "pulls 1;"                  a call of feed() for each byte
 * read "pulls 1;" = -107           the same, and text()
 * </pre>
 * Where a refusal is due by its name, the call must have changed nothing; nor must any call that only asks.
 */
final class Script {
    /** What later calls than these answer is free; State makes some more behind a script's own. */
    private static final int MOST_CALLS = 512 - State.MOST_CALLS;

    private static final Map<String, Long> REFUSALS = Map.of(
        "BAD", -2L, "STATE", -3L, "FULL", -4L, "NOTHING", -11L, "OUTSIDE", -12L, "UNLIKE", -13L, "NEGATIVE", -14L,
        "NO", -4611686018427387904L);
    private static final Set<String> ASKING = Set.of(
        "told", "asks", "ride", "far", "best", "from", "together", "shut", "tells", "drawn", "chance", "count", "taken");

    /** A call of the face, made on the class or on the Model. */
    record Call(String name, int... arguments) {
        long on(Object x) {
            Class<?>[] types = new Class<?>[arguments.length];
            Arrays.fill(types, int.class);
            try {
                Method m = x.getClass().getMethod(name, types);
                return ((Number) m.invoke(x, Arrays.stream(arguments).boxed().toArray())).longValue();
            } catch (InvocationTargetException thrown) {
                throw new IllegalStateException(this + " threw " + thrown.getCause());
            } catch (ReflectiveOperationException none) {
                throw new IllegalArgumentException("no such call: " + this);
            }
        }

        @Override
        public String toString() {
            String list = Arrays.toString(arguments);
            return name + "(" + list.substring(1, list.length() - 1) + ")";
        }
    }

    private final String sentence;
    private final Object x = new TandemKeepsAPlace();
    private final Object model = new Model();
    private final List<Call> made = new ArrayList<>();
    private final List<Call> changing = new ArrayList<>();

    private Script(String sentence) {
        this.sentence = sentence;
    }

    static void run(String sentence, String rows) {
        Script script = new Script(sentence);
        try {
            rows.lines().map(String::strip).filter(row -> !row.isEmpty()).forEach(script::row);
            Check.same(sentence + ": what is left behind all calls", State.after(script.made), State.after(script.changing));
        } catch (IllegalStateException thrown) {
            Check.same(sentence + ": " + thrown.getMessage(), "an exception", "none");
        }
    }

    private void row(String row) {
        if (row.startsWith("tape \"")) {
            feed(row.substring(6, row.lastIndexOf('"')));
            return;
        }
        int is = row.lastIndexOf(" = ");
        String call = row.substring(0, is).strip();
        String due = row.substring(is + 3).strip();
        if (call.startsWith("read \"")) {
            feed(call.substring(6, call.lastIndexOf('"')));
            call = "text()";
        }
        int open = call.indexOf('{');
        if (open < 0) {
            make(parsed(call), due);
            return;
        }
        int close = call.indexOf('}');
        for (String one : call.substring(open + 1, close).split(" ")) {
            row(call.substring(0, open) + one + call.substring(close + 1) + " = " + due);
        }
    }

    private void feed(String bytes) {
        for (int i = 0; i < bytes.length(); i++) {
            Call call = new Call("feed", bytes.charAt(i));
            call.on(x);
            call.on(model);
            made.add(call);
            changing.add(call);
        }
    }

    private static Call parsed(String call) {
        int open = call.indexOf('(');
        String list = call.substring(open + 1, call.lastIndexOf(')')).strip();
        int[] arguments = list.isEmpty()
            ? new int[0] : Arrays.stream(list.split(", *")).mapToInt(Script::number).toArray();
        return new Call(call.substring(0, open), arguments);
    }

    private static int number(String word) {
        switch (word) {
            case "MAX": return Integer.MAX_VALUE;
            case "MIN": return Integer.MIN_VALUE;
            default: return Integer.parseInt(word);
        }
    }

    private void make(Call call, String due) {
        boolean refused = REFUSALS.containsKey(due);
        long want = refused ? REFUSALS.get(due) : due.equals("NONE") ? -1 : Long.parseLong(due);
        Check.due(sentence + ": " + call, call.on(x), want);
        Check.due(sentence + ": the Model's " + call, call.on(model), want);
        List<Call> ahead = List.copyOf(made);
        made.add(call);
        if (refused) {
            Check.same(sentence + ": what is left behind " + call, State.after(made), State.after(ahead));
        } else if (!ASKING.contains(call.name())) {
            changing.add(call);
        }
        if (made.size() > MOST_CALLS) {
            throw new IllegalStateException("more than " + MOST_CALLS + " calls");
        }
    }
}
