import java.lang.reflect.Method;
import java.lang.reflect.Modifier;
import java.nio.file.Files;
import java.nio.file.Path;
import java.util.ArrayList;
import java.util.List;
import java.util.Set;
import java.util.TreeSet;
import java.util.regex.Matcher;
import java.util.regex.Pattern;

/** README.md tells the face and the refusals of the document, and an example that answers as it says. */
public final class ReadmeTest {
    private static final Due due = new Due("ReadmeTest");
    private static final Pattern CALL = Pattern.compile("ferns\\.(\\w+)\\((.*)\\); +// (-?\\d+)(:.*)?");
    private static final Pattern REFUSAL = Pattern.compile("\\b(UNKNOWN|OUTSIDE|STATE|FULL)\\b");

    public static void main(String[] args) throws Exception {
        String readme = Files.readString(Path.of("README.md"));
        String document = Files.readString(Path.of("../shared/DOC.md"));
        constants(readme);
        calls(readme, document);
        example(readme);
        tests(readme);
        due.end();
    }

    private static void constants(String readme) {
        due.holds("NONE is told", readme.contains("`NONE` (" + PressedFerns.NONE + ")"));
        due.holds("UNKNOWN is told", readme.contains("| `UNKNOWN` | " + PressedFerns.UNKNOWN + " |"));
        due.holds("OUTSIDE is told", readme.contains("| `OUTSIDE` | " + PressedFerns.OUTSIDE + " |"));
        due.holds("STATE is told", readme.contains("| `STATE` | " + PressedFerns.STATE + " |"));
        due.holds("FULL is told", readme.contains("| `FULL` | " + PressedFerns.FULL + " |"));
    }

    /** A row for each call of the document, with its refusals in their order. */
    private static void calls(String readme, String document) {
        Matcher promise = Pattern.compile("(?m)^`((?:int|long) (\\w+)\\([^`]*\\))`: (.*)$").matcher(document);
        Set<String> told = new TreeSet<>();
        while (promise.find()) {
            told.add(promise.group(2));
            Matcher row = Pattern.compile("(?m)^\\| `" + Pattern.quote(promise.group(1)) + "` \\| (.*) \\| ?(.*?) ?\\|$")
                .matcher(readme);
            boolean hasRow = row.find();
            due.holds("a row for " + promise.group(1), hasRow && !row.group(1).isBlank());
            if (hasRow) {
                List<String> refusals = refusalsIn(row.group(2));
                due.holds("refusals of " + promise.group(1) + " are " + refusals,
                    refusals.equals(refusalsIn(promise.group(3))));
            }
        }
        due.is("calls of the document", told.size(), 26);
        for (Method m : PressedFerns.class.getDeclaredMethods()) {
            due.holds(m.toString(), !Modifier.isPublic(m.getModifiers()) || told.contains(m.getName()));
        }
    }

    private static List<String> refusalsIn(String text) {
        List<String> refusals = new ArrayList<>();
        Matcher m = REFUSAL.matcher(text);
        while (m.find()) {
            refusals.add(m.group());
        }
        return refusals;
    }

    private static void example(String readme) throws Exception {
        Matcher block = Pattern.compile("(?s)```java\n(.*?)```").matcher(readme);
        due.holds("an example", block.find());
        String[] lines = block.group(1).split("\n");
        due.holds("the object is made first", lines[0].equals("PressedFerns ferns = new PressedFerns();"));
        PressedFerns ferns = new PressedFerns();
        for (int i = 1; i < lines.length; i++) {
            Matcher call = CALL.matcher(lines[i]);
            boolean isCall = call.matches();
            due.holds("a call with its answer: " + lines[i], isCall);
            if (isCall) {
                due.is(lines[i], answer(ferns, call.group(1), call.group(2)), Long.parseLong(call.group(3)));
            }
        }
    }

    private static long answer(PressedFerns ferns, String name, String arguments) throws Exception {
        String[] texts = arguments.isEmpty() ? new String[0] : arguments.split(", ");
        for (Method m : PressedFerns.class.getDeclaredMethods()) {
            if (m.getName().equals(name)) {
                Object[] values = new Object[texts.length];
                for (int i = 0; i < texts.length; i++) {
                    values[i] = value(m.getParameterTypes()[i], texts[i]);
                }
                return ((Number) m.invoke(ferns, values)).longValue();
            }
        }
        throw new IllegalArgumentException(name);
    }

    private static Object value(Class<?> type, String text) {
        if (type == boolean.class) {
            return Boolean.valueOf(text);
        }
        return type == long.class ? (Object) Long.decode(text.replace("L", "")) : (Object) Integer.valueOf(text);
    }

    private static void tests(String readme) {
        String[] files = Path.of("src/test/java").toFile().list();
        for (String file : files == null ? new String[0] : files) {
            if (file.endsWith("Test.java")) {
                due.holds("a row for " + file, readme.contains("| `" + file.replace(".java", "") + "` |"));
            }
        }
    }
}
