import java.lang.reflect.Constructor;
import java.lang.reflect.Field;
import java.lang.reflect.Method;
import java.lang.reflect.Modifier;
import java.util.Arrays;
import java.util.Set;
import java.util.TreeSet;

/** The class as it looks from outside: the document's face, and nothing else that can be seen. */
public final class FaceTest {
    private static final Check CHECK = new Check();
    private static final String ARGUMENT = " throws IllegalArgumentException";
    private static final String STATE = " throws IllegalStateException";
    private static final String[] FACE = {
        "int literal(int)" + ARGUMENT,
        "int hint(int)" + ARGUMENT + " IllegalStateException",
        "int clear()",
        "int give()" + STATE,
        "int step()" + STATE,
        "int along()" + STATE,
        "int drop(int)" + ARGUMENT,
        "int at(int, int)" + ARGUMENT,
        "int told()",
        "boolean isOver()",
        "int wrong()",
        "int count(int)" + ARGUMENT,
    };

    public static void main(String[] args) {
        CHECK.due("public final", ProofBench.class.getModifiers(), Modifier.PUBLIC | Modifier.FINAL);
        constructors();
        methods();
        fields();
        CHECK.end();
    }

    private static void constructors() {
        Constructor<?>[] all = ProofBench.class.getDeclaredConstructors();
        CHECK.due("constructors", all.length, 1);
        CHECK.due("its parameters", all[0].getParameterCount(), 0);
        CHECK.due("it is public", Modifier.isPublic(all[0].getModifiers()), true);
    }

    private static void methods() {
        Set<String> seen = new TreeSet<>();
        Set<String> publicNames = new TreeSet<>();
        for (Method method : ProofBench.class.getDeclaredMethods()) {
            if (!Modifier.isPrivate(method.getModifiers())) {
                CHECK.due(method + " is public and no more", method.getModifiers(), Modifier.PUBLIC);
                seen.add(written(method));
                publicNames.add(method.getName());
            }
        }
        CHECK.same("methods", seen.toString(), new TreeSet<>(Arrays.asList(FACE)).toString());
        for (Method method : ProofBench.class.getDeclaredMethods()) {
            if (Modifier.isPrivate(method.getModifiers())) {
                CHECK.due(method + " bears a public name", publicNames.contains(method.getName()), false);
            }
        }
    }

    private static String written(Method method) {
        StringBuilder text = new StringBuilder();
        text.append(method.getReturnType().getSimpleName()).append(' ').append(method.getName());
        text.append(Arrays.toString(method.getParameterTypes()).replace('[', '(').replace(']', ')'));
        String thrown = "";
        for (Class<?> type : method.getExceptionTypes()) {
            thrown += " " + type.getSimpleName();
        }
        return thrown.isEmpty() ? text.toString() : text + " throws" + thrown;
    }

    private static void fields() {
        for (Field field : ProofBench.class.getDeclaredFields()) {
            int modifiers = field.getModifiers();
            CHECK.due(field + " is private", Modifier.isPrivate(modifiers), true);
            CHECK.due(field + " is final or no static",
                Modifier.isFinal(modifiers) || !Modifier.isStatic(modifiers), true);
        }
    }
}
