import java.lang.reflect.Constructor;
import java.lang.reflect.Field;
import java.lang.reflect.Method;
import java.lang.reflect.Modifier;
import java.util.ArrayList;
import java.util.Collections;
import java.util.List;
import java.util.TreeSet;

/** The class shows the document's face, word for word, and nothing else. */
final class FaceTests {
    private static final String INDEX = "IndexOutOfBoundsException";
    private static final String ARGUMENT = "IllegalArgumentException";
    private static final String STATE = "IllegalStateException";

    private static final List<String> METHODS = List.of(
            "int addPart(int) " + ARGUMENT + " " + STATE,
            "int setTool(int,int) " + INDEX + " " + ARGUMENT,
            "int contact(int,int,boolean) " + INDEX + " " + ARGUMENT,
            "int hinder(int,int,int,boolean) " + INDEX + " " + ARGUMENT,
            "int setBase(int) " + INDEX,
            "boolean askSteady(boolean)",
            "int parts()",
            "boolean isConnected(int) " + ARGUMENT,
            "boolean isSteady(int) " + ARGUMENT,
            "int free(int,int) " + INDEX + " " + ARGUMENT,
            "boolean canTake(int,int) " + INDEX + " " + ARGUMENT,
            "int movesWith(int,int) " + INDEX,
            "int boundTo(int,int) " + INDEX,
            "int groups(int) " + INDEX,
            "int splits(int) " + ARGUMENT,
            "int ways() " + STATE,
            "int leastDepth() " + STATE,
            "int orders() " + STATE,
            "int fewestChanges() " + STATE,
            "int fewestByListing() " + STATE,
            "int orderAt(int) " + INDEX,
            "int setJams(int,int) " + INDEX + " " + ARGUMENT,
            "int begin() " + STATE,
            "int step() " + STATE,
            "int stepBack() " + STATE,
            "int built()",
            "int clock()",
            "int mounted()",
            "boolean isBypassed(int) " + INDEX);

    static void run(Check check) {
        check.title("Public face");
        check.due(new TreeSet<>(METHODS).toString(), () -> shownMethods().toString());
        check.due("[DOWN, NONE, UP]", () -> shownFields().toString());
        check.due(1, () -> AssemblyPlanner.class.getDeclaredConstructors().length);
        check.due("public", FaceTests::constructorModifiers);
        check.due("public final", () -> Modifier.toString(AssemblyPlanner.class.getModifiers()));
        check.due("[]", () -> sharedNames().toString());

        check.title("Constants");
        check.due(-1, () -> AssemblyPlanner.NONE);
        check.due(4, () -> AssemblyPlanner.UP);
        check.due(5, () -> AssemblyPlanner.DOWN);
    }

    private static String constructorModifiers() {
        for (Constructor<?> constructor : AssemblyPlanner.class.getDeclaredConstructors()) {
            return constructor.getParameterCount() == 0 ? Modifier.toString(constructor.getModifiers()) : "not empty";
        }
        return "none";
    }

    private static TreeSet<String> shownMethods() {
        TreeSet<String> shown = new TreeSet<>();
        for (Method method : AssemblyPlanner.class.getDeclaredMethods()) {
            if (!Modifier.isPrivate(method.getModifiers()) && !method.isSynthetic()) {
                shown.add(signature(method));
            }
        }
        return shown;
    }

    private static String signature(Method method) {
        List<String> types = new ArrayList<>();
        for (Class<?> type : method.getParameterTypes()) {
            types.add(type.getSimpleName());
        }
        StringBuilder text = new StringBuilder();
        text.append(method.getReturnType()).append(' ').append(method.getName());
        text.append('(').append(String.join(",", types)).append(')');
        for (Class<?> thrown : method.getExceptionTypes()) {
            text.append(' ').append(thrown.getSimpleName());
        }
        return text.toString();
    }

    private static List<String> shownFields() {
        List<String> shown = new ArrayList<>();
        for (Field field : AssemblyPlanner.class.getDeclaredFields()) {
            if (!Modifier.isPrivate(field.getModifiers()) && !field.isSynthetic()) {
                shown.add(field.getName());
            }
        }
        Collections.sort(shown);
        return shown;
    }

    /** Private methods, of the classes inside too, that bear the name of a public one (LANGUAGE.md, rule 1). */
    private static List<String> sharedNames() {
        TreeSet<String> open = new TreeSet<>();
        for (Method method : AssemblyPlanner.class.getDeclaredMethods()) {
            if (Modifier.isPublic(method.getModifiers())) {
                open.add(method.getName());
            }
        }
        List<Class<?>> classes = new ArrayList<>(List.of(AssemblyPlanner.class.getDeclaredClasses()));
        classes.add(AssemblyPlanner.class);
        List<String> shared = new ArrayList<>();
        for (Class<?> type : classes) {
            for (Method method : type.getDeclaredMethods()) {
                if (Modifier.isPrivate(method.getModifiers()) && open.contains(method.getName())) {
                    shared.add(type.getSimpleName() + "." + method.getName());
                }
            }
        }
        return shared;
    }
}
