import java.lang.reflect.Constructor;
import java.lang.reflect.Field;
import java.lang.reflect.Member;
import java.lang.reflect.Method;
import java.lang.reflect.Modifier;
import java.util.ArrayList;
import java.util.Arrays;
import java.util.List;
import java.util.Set;
import java.util.TreeSet;

/** The class has the document's face, with its throws clauses, and nothing else to be seen. */
public final class FaceTest {
    private static final String[] FACE = {
        "int NONE",
        "PageBanks()",
        "int bank(int, int) Index Argument State Unsupported",
        "int buy(int) Index State Unsupported",
        "int buyRun(int, int) Index Argument State Unsupported",
        "int runKey(int, int) Dead Argument",
        "int sell(int) Dead Argument",
        "int weak(int) Dead",
        "int read(int, int) Dead Index",
        "int write(int, int, int) Dead Argument Index",
        "int move(int, int) Dead Argument Index State Unsupported",
        "int limit(int, int) Index Argument State",
        "int reserve(int, int) Index Argument State Unsupported",
        "int unreserve(int, int) Index Argument",
        "boolean freeze(int, boolean) Index Argument State",
        "int destroy(int) Index Argument State",
        "int work(int) Argument",
        "int handUp(int) Index Argument State",
        "int told(int, int) Index Argument",
        "int page(int, int) Index",
        "int owner(int) Dead",
        "boolean isAlive(int)",
        "int refused()",
        "int count(int)",
        "int astray()",
    };

    public static void main(String[] args) {
        Check check = new Check("FaceTest");
        check.scene("the face");
        check.equal("modifiers", PageBanks.class.getModifiers(), Modifier.PUBLIC | Modifier.FINAL);
        check.equal("members", visibleMembers(), new TreeSet<>(Arrays.asList(FACE)));
        check.equal("NONE", PageBanks.NONE, -1);
        check.equal("private methods with a public name", namesakes(), new TreeSet<String>());
        check.end();
    }

    private static Set<String> visibleMembers() {
        Set<String> members = new TreeSet<>();
        for (Field field : PageBanks.class.getDeclaredFields()) {
            if (isVisible(field)) {
                members.add(field.getType().getName() + " " + field.getName());
            }
        }
        for (Constructor<?> constructor : PageBanks.class.getDeclaredConstructors()) {
            members.add("PageBanks" + list(constructor.getParameterTypes()));
        }
        for (Method method : PageBanks.class.getDeclaredMethods()) {
            if (isVisible(method)) {
                members.add(method.getReturnType().getName() + " " + method.getName()
                        + list(method.getParameterTypes()) + thrown(method));
            }
        }
        return members;
    }

    private static Set<String> namesakes() {
        Set<String> visible = new TreeSet<>();
        Set<String> hidden = new TreeSet<>();
        for (Method method : PageBanks.class.getDeclaredMethods()) {
            (isVisible(method) ? visible : hidden).add(method.getName());
        }
        hidden.retainAll(visible);
        return hidden;
    }

    private static boolean isVisible(Member member) {
        return !Modifier.isPrivate(member.getModifiers()) && !member.isSynthetic();
    }

    private static String list(Class<?>[] types) {
        List<String> names = new ArrayList<>();
        for (Class<?> type : types) {
            names.add(type.getName());
        }
        return "(" + String.join(", ", names) + ")";
    }

    private static String thrown(Method method) {
        StringBuilder names = new StringBuilder();
        for (Class<?> type : method.getExceptionTypes()) {
            names.append(' ').append(shortName(type));
        }
        return names.toString();
    }

    private static String shortName(Class<?> type) {
        if (type == Check.INDEX) {
            return "Index";
        } else if (type == Check.ARGUMENT) {
            return "Argument";
        } else if (type == Check.STATE) {
            return "State";
        } else if (type == Check.UNSUPPORTED) {
            return "Unsupported";
        } else if (type == Check.DEAD) {
            return "Dead";
        }
        return type.getName();
    }
}
