import java.lang.reflect.Method;
import java.lang.reflect.Modifier;
import java.nio.file.Files;
import java.nio.file.Path;
import java.util.ArrayList;
import java.util.List;
import java.util.Set;
import java.util.TreeSet;
import java.util.regex.Matcher;
import java.util.regex.Pattern;

/** What README.md shows: each call of its examples with the answer that stands behind it, each call, each constant. */
public final class ReadmeTest {
    private static final Check CHECK = new Check("ReadmeTest");
    private static final Pattern MADE = Pattern.compile("FlexedFaces faces = new FlexedFaces\\(\\);");
    private static final Pattern TEXT = Pattern.compile("for \\(char letter : \"([^\"]*)\"\\.toCharArray\\(\\)\\) \\{");
    private static final Pattern FED = Pattern.compile("faces\\.feed\\(letter\\);");
    private static final Pattern CALL = Pattern.compile("faces\\.(\\w+)\\(([-0-9, ]*)\\); +// (-?[0-9]+|[A-Z]+)(:.*)?");
    private static final Pattern CALL_TOLD = Pattern.compile("\\| `(\\w+)\\(([^)]*)\\)` \\|.*");
    private static final Pattern CONSTANT_TOLD = Pattern.compile("\\| `([A-Z]+)` \\| (-?[0-9]+) \\|.*");

    private static FlexedFaces faces;
    private static String text = "";
    private static final Set<String> USED = new TreeSet<>();

    public static void main(String[] args) throws Exception {
        List<String> lines = Files.readAllLines(Path.of("README.md"));
        for (String line : examples(lines)) {
            runLine(line.strip());
        }
        everyCallIsShown();
        callsTold(lines);
        constantsTold(lines);
        CHECK.end();
    }

    private static List<String> examples(List<String> lines) {
        List<String> inside = new ArrayList<>();
        boolean java = false;
        for (String line : lines) {
            if (line.startsWith("```")) {
                java = line.equals("```java");
            } else if (java) {
                inside.add(line);
            }
        }
        return inside;
    }

    /** A line that is not understood is a fault, too: it would be shown without being tested. */
    private static void runLine(String line) throws Exception {
        Matcher told = TEXT.matcher(line);
        Matcher call = CALL.matcher(line);
        if (MADE.matcher(line).matches()) {
            faces = new FlexedFaces();
        } else if (told.matches()) {
            text = told.group(1);
        } else if (FED.matcher(line).matches()) {
            feedAll();
        } else if (call.matches()) {
            long got = answer(call.group(1), call.group(2));
            CHECK.due(line, got, number(call.group(3)));
        } else {
            CHECK.due("an example's line that can be tested: " + line, line.equals("}") ? 1 : 0, 1);
        }
    }

    private static void feedAll() {
        USED.add("feed");
        for (int k = 0; k < text.length(); k++) {
            CHECK.due("feed of " + text, faces.feed(text.charAt(k)), k + 1);
        }
    }

    private static long answer(String name, String told) throws Exception {
        USED.add(name);
        String[] numbers = told.isBlank() ? new String[0] : told.split(" *, *");
        for (Method method : FlexedFaces.class.getMethods()) {
            if (method.getName().equals(name) && method.getParameterCount() == numbers.length) {
                Object[] given = new Object[numbers.length];
                for (int k = 0; k < given.length; k++) {
                    boolean wide = method.getParameterTypes()[k] == long.class;
                    given[k] = wide ? (Object) Long.valueOf(numbers[k]) : (Object) Integer.valueOf(numbers[k]);
                }
                return ((Number) method.invoke(faces, given)).longValue();
            }
        }
        throw new IllegalStateException("README.md shows a call that there is not: " + name + "(" + told + ")");
    }

    private static long number(String told) throws Exception {
        return Character.isLetter(told.charAt(0)) ? FlexedFaces.class.getField(told).getInt(null) : Long.parseLong(told);
    }

    private static Set<String> calls(boolean withCount) {
        Set<String> names = new TreeSet<>();
        for (Method method : FlexedFaces.class.getDeclaredMethods()) {
            if (Modifier.isPublic(method.getModifiers())) {
                names.add(method.getName() + (withCount ? " " + method.getParameterCount() : ""));
            }
        }
        return names;
    }

    private static void everyCallIsShown() {
        CHECK.due("calls that the examples show: " + USED, USED.equals(calls(false)) ? 1 : 0, 1);
    }

    private static void callsTold(List<String> lines) {
        Set<String> told = new TreeSet<>();
        for (String line : lines) {
            Matcher row = CALL_TOLD.matcher(line);
            if (row.matches()) {
                String numbers = row.group(2);
                told.add(row.group(1) + " " + (numbers.isEmpty() ? 0 : numbers.split(",").length));
            }
        }
        CHECK.due("calls that the table tells: " + told, told.equals(calls(true)) ? 1 : 0, 1);
    }

    private static void constantsTold(List<String> lines) throws Exception {
        int rows = 0;
        for (String line : lines) {
            Matcher row = CONSTANT_TOLD.matcher(line);
            if (row.matches()) {
                rows++;
                CHECK.due(row.group(1) + " in the table", Long.parseLong(row.group(2)), number(row.group(1)));
            }
        }
        CHECK.due("constants that the table tells", rows, FlexedFaces.class.getFields().length);
    }
}
