import java.lang.reflect.Method;
import java.util.HashMap;
import java.util.IdentityHashMap;
import java.util.List;
import java.util.Map;
import java.util.function.Supplier;

/** Looks at the edges of calls: what is just taken, what is refused, and that a call refused changes nothing. */
final class Edges {
    private static final int[] FAR = {Integer.MIN_VALUE, Integer.MAX_VALUE};

    private final Checks c;
    private final Map<String, Method> face = new HashMap<>();
    private final Map<Supplier<FogShare>, List<String>> shown = new IdentityHashMap<>();

    Edges(Checks checks) {
        c = checks;
        for (Method method : FogShare.class.getMethods()) {
            face.put(method.getName(), method);
        }
    }

    static String named(String name, int... args) {
        StringBuilder text = new StringBuilder(name).append('(');
        for (int i = 0; i < args.length; i++) {
            text.append(i > 0 ? ", " : "").append(args[i]);
        }
        return text.append(')').toString();
    }

    /** Calls a method by its name; a boolean counts 1 or 0. */
    int call(FogShare x, String name, int... args) {
        Object[] boxed = new Object[args.length];
        for (int i = 0; i < args.length; i++) {
            boxed[i] = args[i];
        }
        c.called(x);
        try {
            Object answer = face.get(name).invoke(x, boxed);
            return answer instanceof Boolean ? (Boolean) answer ? 1 : 0 : (Integer) answer;
        } catch (ReflectiveOperationException e) {
            throw new IllegalStateException(named(name, args), e);
        }
    }

    void due(FogShare x, int want, String name, int... args) {
        c.due(named(name, args), call(x, name, args), want);
    }

    /** A call that is refused, on an object that is made for it: nothing that it shows later is another. */
    void refused(Supplier<FogShare> made, int want, String name, int... args) {
        FogShare x = made.get();
        due(x, want, name, args);
        List<String> before = shown.computeIfAbsent(made, m -> Shown.all(m.get()));
        List<String> after = Shown.all(x);
        c.due("the number of answers behind " + named(name, args), after.size(), before.size());
        for (int i = 0; i < Math.min(before.size(), after.size()); i++) {
            if (!before.get(i).equals(after.get(i))) {
                c.due(named(name, args) + " changed " + before.get(i) + " to " + after.get(i), 1, 0);
                return;
            }
        }
    }

    /** An argument of a call that is taken from low to high: the ones below, above and far off are refused, low and high are not. */
    void range(Supplier<FogShare> made, int want, int low, int high, int at, String name, int... args) {
        int[] changed = args.clone();
        for (int edge : new int[] {low, high}) {
            changed[at] = edge;
            int got = call(made.get(), name, changed);
            c.due(named(name, changed) + " refused", got == want, false);
        }
        for (int off : new int[] {low - 1, high + 1, FAR[0], FAR[1]}) {
            changed[at] = off;
            refused(made, want, name, changed);
        }
    }
}
