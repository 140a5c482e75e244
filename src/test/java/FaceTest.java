import java.lang.reflect.Constructor;
import java.lang.reflect.Field;
import java.lang.reflect.Method;
import java.lang.reflect.Modifier;
import java.util.ArrayList;
import java.util.Arrays;
import java.util.List;
import java.util.TreeSet;

/** The public face: its signatures, its constants and nothing beside them (LANGUAGE.md, rule 1). */
public final class FaceTest {
    private static final String[] METHODS = {
        "int variable(int, int)",
        "int linear(int, int, int, int, int, int, int)",
        "int reified(int, int, int, int)",
        "int maximum(int, int, int, int)",
        "int element(int, int, long)",
        "int different(int)",
        "int cumulative(int, long, long, int)",
        "int clause(int, int, int, int, int, int, int)",
        "boolean drop()",
        "boolean assume(int, int, int)",
        "boolean retract()",
        "boolean solve()",
        "boolean best(int, boolean)",
        "int value(int)",
        "int least(int)",
        "int greatest(int)",
        "boolean implies(int, int)",
        "int variables()",
        "int constraints()",
        "int assumptions()",
        "int space()",
    };

    private static final Checks CHECKS = new Checks();

    public static void main(String[] args) {
        constants();
        fields();
        constructors();
        methods();
        nestedClasses();
        CHECKS.end();
    }

    private static void constants() {
        CHECKS.due("BAD", ExplainingSolver.BAD, -1);
        CHECKS.due("FULL", ExplainingSolver.FULL, -2);
        CHECKS.due("NONE", ExplainingSolver.NONE, 1000);
    }

    private static void fields() {
        List<String> visible = new ArrayList<>();
        for (Field field : ExplainingSolver.class.getDeclaredFields()) {
            int modifiers = field.getModifiers();
            if (!Modifier.isPrivate(modifiers)) {
                visible.add(Modifier.toString(modifiers) + " " + field.getType() + " " + field.getName());
            }
            if (Modifier.isStatic(modifiers) && !Modifier.isFinal(modifiers)) {
                CHECKS.tell(field + " is static and not final");
            }
        }
        same("fields", visible, "public static final int BAD", "public static final int FULL",
                "public static final int NONE");
    }

    private static void constructors() {
        List<String> all = new ArrayList<>();
        for (Constructor<?> constructor : ExplainingSolver.class.getDeclaredConstructors()) {
            all.add(constructor.toString());
        }
        same("constructors", all, "public ExplainingSolver()");
    }

    private static void methods() {
        List<String> visible = new ArrayList<>();
        TreeSet<String> publicNames = new TreeSet<>();
        TreeSet<String> privateNames = new TreeSet<>();
        for (Method method : ExplainingSolver.class.getDeclaredMethods()) {
            if (Modifier.isPrivate(method.getModifiers())) {
                privateNames.add(method.getName());
            } else {
                visible.add(signature(method));
                publicNames.add(method.getName());
            }
        }
        String[] due = new String[METHODS.length];
        for (int n = 0; n < due.length; n++) {
            due[n] = "public " + METHODS[n];
        }
        same("methods", visible, due);
        privateNames.retainAll(publicNames);
        CHECKS.due("private methods that bear a public one's name", privateNames.size(), 0);
    }

    private static void nestedClasses() {
        CHECKS.due("the class is public and final", ExplainingSolver.class.getModifiers(),
                Modifier.PUBLIC | Modifier.FINAL);
        for (Class<?> nested : ExplainingSolver.class.getDeclaredClasses()) {
            int modifiers = nested.getModifiers();
            if (Modifier.isPublic(modifiers) || Modifier.isProtected(modifiers)
                    || !Modifier.isStatic(modifiers)) {
                CHECKS.tell(nested + " is " + Modifier.toString(modifiers));
            }
        }
    }

    private static String signature(Method method) {
        StringBuilder text = new StringBuilder(Modifier.toString(method.getModifiers()));
        text.append(' ').append(method.getReturnType()).append(' ').append(method.getName()).append('(');
        for (Class<?> type : method.getParameterTypes()) {
            text.append(text.charAt(text.length() - 1) == '(' ? "" : ", ").append(type);
        }
        return text.append(')').toString();
    }

    private static void same(String what, List<String> got, String... want) {
        TreeSet<String> wanted = new TreeSet<>(Arrays.asList(want));
        TreeSet<String> had = new TreeSet<>(got);
        if (!wanted.equals(had)) {
            CHECKS.tell(what + " are " + had + ", due are " + wanted);
        }
    }
}
