import java.lang.reflect.Method;
import java.util.HashMap;
import java.util.Map;

/** An object that is called by name, and by no more than the 512 calls after which its answers are free. */
final class Asked {
    private static final int MOST_CALLS = 512;
    private static final Map<String, Method> METHODS = new HashMap<>();

    static {
        for (Method m : GluedInLifetime.class.getMethods()) {
            METHODS.put(m.getName(), m);
        }
    }

    private final GluedInLifetime x = new GluedInLifetime();
    private int calls;

    /** The answer; what the machine throws goes on as a failure of the test. */
    long ask(String name, int... args) {
        calls++;
        if (calls > MOST_CALLS) {
            throw new IllegalStateException("the test itself: a call too many, " + name);
        }
        Object[] boxed = new Object[args.length];
        for (int i = 0; i < args.length; i++) {
            boxed[i] = args[i];
        }
        try {
            return ((Number) METHODS.get(name).invoke(x, boxed)).longValue();
        } catch (ReflectiveOperationException e) {
            throw new IllegalStateException(name + " threw", e);
        }
    }

    void put(String text) {
        for (int i = 0; i < text.length(); i++) {
            ask("letter", text.charAt(i));
        }
    }

    long tell(String text) {
        put(text);
        return ask("shop");
    }
}
