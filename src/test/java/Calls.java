import java.lang.reflect.Method;
import java.util.HashMap;
import java.util.Map;

/** Calls by their names, and all that an object would tell. */
final class Calls {
    private static final Map<String, Method> METHODS = new HashMap<>();

    static {
        for (Method m : NoonShade.class.getDeclaredMethods()) {
            if (java.lang.reflect.Modifier.isPublic(m.getModifiers())) {
                METHODS.put(m.getName(), m);
            }
        }
    }

    private Calls() {
    }

    static long ask(NoonShade x, String name, int... a) {
        Object[] boxed = new Object[a.length];
        for (int k = 0; k < a.length; k++) {
            boxed[k] = a[k];
        }
        try {
            return ((Number) METHODS.get(name).invoke(x, boxed)).longValue();
        } catch (ReflectiveOperationException thrown) {
            throw new IllegalStateException(told(name, a) + " threw", thrown);
        }
    }

    static String told(String name, int... a) {
        StringBuilder s = new StringBuilder(name).append('(');
        for (int k = 0; k < a.length; k++) {
            s.append(k == 0 ? "" : ", ").append(a[k]);
        }
        return s.append(')').toString();
    }

    /**
     * All that there is but STATUS: what is now, what may be undone, both images with what they may undo, the text.
     * The object is used up by it (some 80 calls).
     */
    static String allOf(NoonShade x) {
        StringBuilder s = new StringBuilder();
        tellAndUndo(x, s);
        for (int i = 0; i <= 1; i++) {
            s.append(" image ").append(x.from(i));
            tellAndUndo(x, s);
        }
        s.append(" read ").append(x.read()).append(' ').append(x.digest());
        return s.toString();
    }

    private static void tellAndUndo(NoonShade x, StringBuilder s) {
        s.append(' ').append(x.digest()).append(' ').append(x.part(0)).append(' ').append(x.part(1));
        for (int k = 0; k < 9; k++) {
            s.append(' ').append(x.undo()).append(' ').append(x.digest());
        }
    }

    static int refusals(NoonShade x) {
        return x.status(0) + x.status(1) + x.status(2);
    }
}
