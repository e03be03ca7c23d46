import java.lang.reflect.InvocationTargetException;
import java.lang.reflect.Method;
import java.util.HashMap;
import java.util.List;
import java.util.Map;

/** Plays calls that are written as text, on the class or on the model, and counts them. */
final class Player {
    /** What later calls answer is free. */
    static final int MOST_CALLS = 512;

    private static final Map<String, Integer> NAMES = Map.ofEntries(
            Map.entry("NONE", PageBanks.NONE),
            Map.entry("MIN", Integer.MIN_VALUE), Map.entry("MAX", Integer.MAX_VALUE),
            Map.entry("use", 0), Map.entry("owned", 1), Map.entry("reserved", 2),
            Map.entry("limit", 3), Map.entry("parent", 4), Map.entry("depth", 5),
            Map.entry("state", 6), Map.entry("subtree", 7),
            Map.entry("free", 0), Map.entry("retired", 1), Map.entry("pages", 2),
            Map.entry("banks", 3),
            Map.entry("LIVE", 0), Map.entry("FROZEN", 1), Map.entry("DYING", 2));

    private static final Map<Class<?>, String> THROWN = Map.of(
            Check.INDEX, "Index", Check.ARGUMENT, "Argument", Check.STATE, "State",
            Check.UNSUPPORTED, "Unsupported", Check.DEAD, "Dead");

    private final Object object;
    private final Map<String, Method> methods = new HashMap<>();
    private int calls = 0;

    Player(Object object) {
        this.object = object;
        for (Method method : object.getClass().getDeclaredMethods()) {
            methods.put(method.getName(), method);
        }
    }

    static boolean isThrown(String outcome) {
        return THROWN.containsValue(outcome.split(" ")[0]);
    }

    /** A number as it is, by its name, or, for a key, as version@place, with a w if it is weak. */
    static int number(String text) {
        if (NAMES.containsKey(text)) {
            return NAMES.get(text);
        }
        int at = text.indexOf('@');
        if (at < 0) {
            return Integer.parseInt(text);
        }
        boolean weak = text.endsWith("w");
        int place = Integer.parseInt(text.substring(at + 1, text.length() - (weak ? 1 : 0)));
        return 1024 * Integer.parseInt(text.substring(0, at)) + 2 * place + (weak ? 1 : 0);
    }

    void playAll(List<EdgeFile.Row> rows) {
        for (EdgeFile.Row row : rows) {
            ask(row.name(), row.args());
        }
    }

    /** The answer, or the exception's short name, with the bank that refused if one is told. */
    String play(EdgeFile.Row row) {
        String outcome = ask(row.name(), row.args());
        return outcome.equals("Unsupported") ? outcome + " " + ask("refused", List.of()) : outcome;
    }

    private String ask(String name, List<String> args) {
        calls++;
        if (calls > MOST_CALLS) {
            throw new IllegalStateException("more than 512 calls on one object");
        }
        try {
            return String.valueOf(invoke(methods.get(name), args));
        } catch (InvocationTargetException e) {
            Class<?> thrown = e.getCause().getClass();
            return THROWN.getOrDefault(thrown, thrown.getName());
        } catch (IllegalAccessException e) {
            throw new IllegalStateException(e);
        }
    }

    private Object invoke(Method method, List<String> args)
            throws InvocationTargetException, IllegalAccessException {
        Object[] values = new Object[args.size()];
        for (int i = 0; i < values.length; i++) {
            boolean isNumber = method.getParameterTypes()[i] == int.class;
            values[i] = isNumber ? (Object) number(args.get(i)) : Boolean.valueOf(args.get(i));
        }
        return method.invoke(object, values);
    }
}
