import java.lang.reflect.Field;
import java.lang.reflect.Method;
import java.lang.reflect.Modifier;
import java.nio.file.Files;
import java.nio.file.Path;
import java.util.Arrays;
import java.util.Set;
import java.util.StringJoiner;
import java.util.TreeSet;
import java.util.regex.Pattern;

/** The public face is the document's and no more, and the source keeps clear of what LANGUAGE.md rules out by name. */
public final class FaceTest {
    private static final Check CHECK = new Check("FaceTest");
    private static final String[] METHODS = {"int feed(int)", "int strip()", "int picture(int, int)",
        "int as(int, int)", "int brings(int)", "int flex(int)", "int turn()", "int refold(int, int)", "int mend(int)",
        "int undo()", "int image(int)", "int restore(int)", "int reach()", "int way(int, int)", "int tour()",
        "int round(int)", "int hand(int, int, int, int)", "int duel(int)", "int decades(int, int, int)",
        "int sheet(int, int, int)", "int drop(int)", "long item(int, int, int, long)",
        "int copy(int, int, int, int, int)", "int log(int, int, int, int)", "int foldings(int, int, int, int, int)",
        "int kinds(int, int, int, int, int)", "int count(int)"};
    private static final String[] CONSTANTS = {"BAD = -1", "NOT = -2", "FULL = -3", "NONE = -4", "NULL = -11",
        "CAST = -12", "INDEX = -13", "SIZE = -14"};
    private static final String[] RULED_OUT = {"\\bthrow\\b", "\\btry\\b", "\\bcatch\\b", "\\bsynchronized\\b",
        "\\bassert\\b", "->", "::", "Exact\\b", "\\bprotected\\b", "^package\\b", "\\bimport\\b", "\\bwhile\\b"};

    public static void main(String[] args) throws Exception {
        methods();
        constants();
        constructors();
        innerNames();
        source();
        CHECK.end();
    }

    private static void methods() {
        Set<String> shown = new TreeSet<>();
        for (Method method : FlexedFaces.class.getDeclaredMethods()) {
            if (!Modifier.isPrivate(method.getModifiers())) {
                shown.add(signature(method));
                CHECK.due(method + " is public and nothing else", method.getModifiers(), Modifier.PUBLIC);
            }
        }
        same("methods", shown, METHODS);
    }

    private static String signature(Method method) {
        StringJoiner types = new StringJoiner(", ", "(", ")");
        for (Class<?> type : method.getParameterTypes()) {
            types.add(type.getName());
        }
        return method.getReturnType().getName() + " " + method.getName() + types;
    }

    private static void constants() throws Exception {
        Set<String> fields = new TreeSet<>();
        for (Field field : FlexedFaces.class.getDeclaredFields()) {
            if (!Modifier.isPrivate(field.getModifiers())) {
                fields.add(field.getName() + " = " + field.getInt(null));
                int want = Modifier.PUBLIC | Modifier.STATIC | Modifier.FINAL;
                CHECK.due(field + " is public static final", field.getModifiers(), want);
                CHECK.due(field + " is an int", field.getType() == int.class ? 1 : 0, 1);
            }
        }
        same("constants", fields, CONSTANTS);
    }

    private static void constructors() {
        CHECK.due("public constructors", FlexedFaces.class.getConstructors().length, 1);
        CHECK.due("all constructors", FlexedFaces.class.getDeclaredConstructors().length, 1);
        CHECK.due("numbers it takes", FlexedFaces.class.getConstructors()[0].getParameterCount(), 0);
        CHECK.due("the class is public and final", FlexedFaces.class.getModifiers(), Modifier.PUBLIC | Modifier.FINAL);
        CHECK.due("what it stands under: nothing", FlexedFaces.class.getSuperclass() == Object.class ? 1 : 0, 1);
        CHECK.due("interfaces", FlexedFaces.class.getInterfaces().length, 0);
    }

    private static void same(String what, Set<String> got, String[] want) {
        boolean same = got.equals(new TreeSet<>(Arrays.asList(want)));
        CHECK.due(what + " " + got, same ? 1 : 0, 1);
    }

    /** Rule 1: no private method bears the name of a public one. */
    private static void innerNames() {
        Set<String> names = new TreeSet<>();
        for (String method : METHODS) {
            names.add(method.substring(method.indexOf(' ') + 1, method.indexOf('(')));
        }
        for (Method method : FlexedFaces.class.getDeclaredMethods()) {
            boolean hidden = Modifier.isPrivate(method.getModifiers());
            CHECK.due(method.getName(), hidden && names.contains(method.getName()) ? 1 : 0, 0);
        }
        for (Class<?> inside : FlexedFaces.class.getDeclaredClasses()) {
            CHECK.due(inside + " is static", Modifier.isStatic(inside.getModifiers()) ? 1 : 0, 1);
            for (Method method : inside.getDeclaredMethods()) {
                CHECK.due(inside + " " + method.getName(), names.contains(method.getName()) ? 1 : 0, 0);
            }
        }
    }

    private static void source() throws Exception {
        String text = Files.readString(Path.of("src/main/java/FlexedFaces.java"));
        String code = text.replaceAll("(?s)/\\*.*?\\*/", "").replaceAll("//[^\n]*", "");
        for (String word : RULED_OUT) {
            CHECK.due("the source has " + word, Pattern.compile(word, Pattern.MULTILINE).matcher(code).find() ? 1 : 0, 0);
        }
    }
}
