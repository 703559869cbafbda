import java.lang.reflect.Member;
import java.lang.reflect.Method;
import java.lang.reflect.Modifier;
import java.nio.file.Files;
import java.nio.file.Path;
import java.util.Arrays;
import java.util.Set;
import java.util.TreeSet;
import java.util.regex.Pattern;

/** The public face is the document's and no more, and the source keeps clear of what LANGUAGE.md rules out by name. */
public final class FaceTest {
    private static final Check CHECK = new Check("FaceTest");
    private static final String[] METHODS = {"feed 1", "strip 0", "picture 2", "as 2", "brings 1", "flex 1", "turn 0",
        "refold 2", "mend 1", "undo 0", "image 1", "restore 1", "reach 0", "way 2", "tour 0", "round 1", "hand 4",
        "duel 1", "decades 3", "sheet 3", "drop 1", "item 4", "copy 5", "log 4", "foldings 5", "kinds 5", "count 1"};
    private static final String[] CONSTANTS = {"BAD", "NOT", "FULL", "NONE", "NULL", "CAST", "INDEX", "SIZE"};
    private static final String[] RULED_OUT = {"\\bthrow\\b", "\\btry\\b", "\\bcatch\\b", "\\bsynchronized\\b",
        "\\bassert\\b", "->", "::", "Exact\\b", "\\bprotected\\b", "^package\\b", "\\bimport\\b", "\\bwhile\\b"};

    public static void main(String[] args) throws Exception {
        Set<String> shown = new TreeSet<>();
        for (Method method : FlexedFaces.class.getDeclaredMethods()) {
            if (!Modifier.isPrivate(method.getModifiers())) {
                shown.add(method.getName() + " " + method.getParameterCount());
            }
        }
        same("methods", shown, METHODS);
        Set<String> fields = new TreeSet<>();
        for (Member field : FlexedFaces.class.getDeclaredFields()) {
            if (!Modifier.isPrivate(field.getModifiers())) {
                fields.add(field.getName());
            }
        }
        same("constants", fields, CONSTANTS);
        CHECK.due("public constructors", FlexedFaces.class.getConstructors().length, 1);
        CHECK.due("all constructors", FlexedFaces.class.getDeclaredConstructors().length, 1);
        CHECK.due("final", Modifier.isFinal(FlexedFaces.class.getModifiers()) ? 1 : 0, 1);
        innerNames();
        source();
        CHECK.end();
    }

    private static void same(String what, Set<String> got, String[] want) {
        boolean same = got.equals(new TreeSet<>(Arrays.asList(want)));
        CHECK.due(what + " " + got, same ? 1 : 0, 1);
    }

    /** Rule 1: no private method bears the name of a public one. */
    private static void innerNames() {
        Set<String> names = new TreeSet<>();
        for (String method : METHODS) {
            names.add(method.substring(0, method.indexOf(' ')));
        }
        for (Method method : FlexedFaces.class.getDeclaredMethods()) {
            boolean hidden = Modifier.isPrivate(method.getModifiers());
            CHECK.due(method.getName(), hidden && names.contains(method.getName()) ? 1 : 0, 0);
        }
        for (Class<?> inside : FlexedFaces.class.getDeclaredClasses()) {
            CHECK.due(inside + " is static", Modifier.isStatic(inside.getModifiers()) ? 1 : 0, 1);
            for (Method method : inside.getDeclaredMethods()) {
                CHECK.due(inside + " " + method.getName(), names.contains(method.getName()) ? 1 : 0, 0);
            }
        }
    }

    private static void source() throws Exception {
        String text = Files.readString(Path.of("src/main/java/FlexedFaces.java"));
        String code = text.replaceAll("(?s)/\\*.*?\\*/", "").replaceAll("//[^\n]*", "");
        for (String word : RULED_OUT) {
            CHECK.due("the source has " + word, Pattern.compile(word, Pattern.MULTILINE).matcher(code).find() ? 1 : 0, 0);
        }
    }
}
