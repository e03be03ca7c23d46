import java.util.NoSuchElementException;

/** Counts the answers that are not as due, and prints each of them. */
final class Check {
    static final Class<?> INDEX = IndexOutOfBoundsException.class;
    static final Class<?> ARGUMENT = IllegalArgumentException.class;
    static final Class<?> STATE = IllegalStateException.class;
    static final Class<?> UNSUPPORTED = UnsupportedOperationException.class;
    static final Class<?> DEAD = NoSuchElementException.class;

    /** A call of the face that may throw. */
    interface Call {
        Object answer();
    }

    private final String suite;
    private String scene = "";
    private int asked = 0;
    private int wrong = 0;

    Check(String suite) {
        this.suite = suite;
    }

    void scene(String name) {
        scene = name;
    }

    void equal(String what, Object got, Object want) {
        asked++;
        if (!want.equals(got)) {
            wrong++;
            System.out.println(scene + ": " + what + " answered " + got + ", due is " + want);
        }
    }

    void throwing(String what, Class<?> want, Call call) {
        equal(what, outcome(call), "throws " + want.getSimpleName());
    }

    /** The answer as a text, or the name of the exception: exactly its class, not one above it. */
    static String outcome(Call call) {
        try {
            return String.valueOf(call.answer());
        } catch (RuntimeException e) {
            return "throws " + e.getClass().getSimpleName();
        }
    }

    void end() {
        System.out.println(suite + ": " + asked + " answers looked at, " + wrong + " wrong");
        if (wrong != 0 || asked == 0) {
            System.exit(1);
        }
    }
}
