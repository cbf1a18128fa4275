import java.lang.reflect.Constructor;
import java.lang.reflect.Field;
import java.lang.reflect.Method;
import java.lang.reflect.Modifier;
import java.nio.file.Files;
import java.nio.file.Path;
import java.util.ArrayList;
import java.util.List;
import java.util.Map;
import java.util.Set;
import java.util.TreeMap;
import java.util.TreeSet;
import java.util.regex.Matcher;
import java.util.regex.Pattern;

/** The rules of ../shared/LANGUAGE.md, as far as they can be seen from the text and the compiled class. */
public final class LanguageTest {
    private static final Due due = new Due("LanguageTest");
    private static final Path SOURCE = Path.of("src/main/java/PressedFerns.java");

    private static final String FACE = """
        public long PressedFerns.digest()
        public long PressedFerns.held(int,int,int,int)
        public int PressedFerns.about(int,int)
        public int PressedFerns.as(int,int)
        public int PressedFerns.bank(int)
        public int PressedFerns.blank()
        public int PressedFerns.book(int)
        public int PressedFerns.clear()
        public int PressedFerns.count(int)
        public int PressedFerns.debt(int,int,int)
        public int PressedFerns.fault()
        public int PressedFerns.fetch(int,int)
        public int PressedFerns.fewest()
        public int PressedFerns.image()
        public int PressedFerns.june()
        public int PressedFerns.least(int,int,int)
        public int PressedFerns.letters(long)
        public int PressedFerns.month(boolean)
        public int PressedFerns.months(int,int,int,int)
        public int PressedFerns.owes(int,int)
        public int PressedFerns.pay(int,int)
        public int PressedFerns.restore()
        public int PressedFerns.ring(int)
        public int PressedFerns.snap(int,int)
        public int PressedFerns.went(int,int,int,int)
        public int PressedFerns.when(int,int,int)
        """;

    public static void main(String[] args) throws Exception {
        face();
        for (Class<?> inside : PressedFerns.class.getDeclaredClasses()) {
            shape(inside);
        }
        shape(PressedFerns.class);
        int classes = PressedFerns.class.getDeclaredClasses().length + 1;
        due.holds("rule 11: " + classes + " classes", classes <= 12);
        text(Files.readString(SOURCE));
        due.end();
    }

    private static void face() {
        Set<String> face = new TreeSet<>(FACE.lines().toList());
        Set<String> found = new TreeSet<>();
        Set<String> names = new TreeSet<>();
        for (Method m : PressedFerns.class.getDeclaredMethods()) {
            if (!Modifier.isPrivate(m.getModifiers())) {
                found.add(m.toString());
                names.add(m.getName());
            }
        }
        due.holds("rule 1: the methods are " + found, found.equals(face));
        List<Class<?>> all = new ArrayList<>(List.of(PressedFerns.class.getDeclaredClasses()));
        all.add(PressedFerns.class);
        for (Class<?> c : all) {
            for (Method m : c.getDeclaredMethods()) {
                boolean isOfFace = c == PressedFerns.class && Modifier.isPublic(m.getModifiers());
                due.holds("rule 1: the name of " + m, isOfFace || !names.contains(m.getName()));
                due.holds("rule 6: " + m, !Set.of("equals", "hashCode", "toString").contains(m.getName()));
            }
        }
        Constructor<?>[] made = PressedFerns.class.getDeclaredConstructors();
        due.holds("rule 1: one constructor", made.length == 1 && Modifier.isPublic(made[0].getModifiers())
            && made[0].getParameterCount() == 0);
        due.holds("rule 1: public and final", Modifier.isFinal(PressedFerns.class.getModifiers())
            && Modifier.isPublic(PressedFerns.class.getModifiers()));
        for (Field f : PressedFerns.class.getDeclaredFields()) {
            boolean isOfFace = Set.of("NONE", "UNKNOWN", "OUTSIDE", "STATE", "FULL").contains(f.getName());
            due.holds("rule 1: " + f, isOfFace == Modifier.isPublic(f.getModifiers())
                && isOfFace != Modifier.isPrivate(f.getModifiers()));
        }
    }

    private static void shape(Class<?> c) {
        due.holds("rule 2: static, not public: " + c, c == PressedFerns.class
            || (Modifier.isStatic(c.getModifiers()) && !Modifier.isPublic(c.getModifiers())
            && !Modifier.isProtected(c.getModifiers())));
        due.holds("rule 2: nothing deeper inside " + c, c == PressedFerns.class || c.getDeclaredClasses().length == 0);
        int own = 0;
        for (Field f : c.getDeclaredFields()) {
            if (Modifier.isStatic(f.getModifiers())) {
                due.holds("rule 5: " + f, Modifier.isFinal(f.getModifiers())
                    && (f.getType().isPrimitive() || f.getType() == String.class));
            } else {
                own++;
            }
        }
        due.holds("rule 11: " + own + " fields in " + c, own <= 20);
        for (Method m : c.getDeclaredMethods()) {
            due.holds("rule 11: parameters of " + m, m.getParameterCount() <= 7);
            due.holds("made by the compiler: " + m, !m.isSynthetic());
        }
    }

    private static void text(String source) {
        due.holds("signs 1 to 127", source.chars().allMatch(sign -> sign > 0 && sign < 127));
        String code = source.replaceAll("(?s)/\\*.*?\\*/|//[^\n]*", " ").replaceAll("'[^']*'", "0");
        due.holds("texts: none", code.indexOf('"') < 0);
        for (String word : List.of("throw", "throws", "try", "catch", "finally", "synchronized", "assert", "import",
            "package", "native", "volatile", "transient", "float", "double", "instanceof", "extends", "implements")) {
            due.holds("the word " + word, !Pattern.compile("\\b" + word + "\\b").matcher(code).find());
        }
        due.holds("rule 2: no lambda, no method reference", !code.contains("->") && !code.contains("::"));
        library(code);
        made(code);
        lengths(code);
        recursion(code);
    }

    private static void library(String code) {
        Set<String> allowed = Set.of("Math.max", "Math.min", "Integer.bitCount", "System.arraycopy");
        Matcher m = Pattern.compile("\\b(Math|Integer|Long|System|String|Arrays|List|Character|Boolean|Object|Thread)\\b(\\.\\w+)?")
            .matcher(code);
        while (m.find()) {
            due.holds("rule 4: " + m.group(), allowed.contains(m.group()));
        }
    }

    /** Rows are made with the objects that hold them, and used again. */
    private static void made(String code) {
        for (String line : code.split("\n")) {
            due.holds("made outside a field: " + line.trim(),
                !line.matches(".*\\bnew\\b.*") || line.matches("\\s*(private )?final \\S+ \\w+ = new .*;"));
        }
    }

    private static void lengths(String code) {
        int depth = 0;
        int start = 0;
        String head = "";
        String[] lines = code.split("\n");
        for (int i = 0; i < lines.length; i++) {
            String line = lines[i];
            if (line.matches(" {4,8}\\S.*\\) \\{\\s*")) {
                start = i;
                head = line;
                depth = line.length() - line.stripLeading().length();
            } else if (!head.isEmpty() && line.equals(" ".repeat(depth) + "}")) {
                due.holds("rule 11: length of" + head, i - start <= 60);
                head = "";
            }
        }
    }

    /** A method that calls itself is private; other calls stay at most eight deep. */
    private static void recursion(String code) {
        Matcher m = Pattern.compile("(?s)\\n( {4}| {8})(\\S[^\\n;]*?)(\\w+)\\([^\\n;{]*\\) \\{\\n(.*?)\\n\\1\\}").matcher(code);
        Map<String, Set<String>> calledBy = new TreeMap<>();
        int recursive = 0;
        while (m.find()) {
            Set<String> called = calledBy.computeIfAbsent(m.group(3), name -> new TreeSet<>());
            called.addAll(callsIn(m.group(4)));
            if (Pattern.compile("(?<![.\\w])" + m.group(3) + "\\(").matcher(m.group(4)).find()) {
                recursive++;
                due.holds("rule 8: " + m.group(3) + " calls itself", m.group(2).startsWith("private "));
            }
        }
        due.is("methods that call themselves", recursive, 3);
        for (String name : calledBy.keySet()) {
            int deep = depth(calledBy, name, 0);
            due.holds("rule 11: calls of " + name + " go " + deep + " deep", deep <= 8);
        }
    }

    private static Set<String> callsIn(String body) {
        Set<String> called = new TreeSet<>();
        Matcher m = Pattern.compile("(\\w+)\\(").matcher(body);
        while (m.find()) {
            called.add(m.group(1));
        }
        return called;
    }

    /** Methods are taken by their names alone: those of one name count as one. */
    private static int depth(Map<String, Set<String>> calledBy, String name, int above) {
        int deepest = 0;
        // Where methods of one name call one another's, the way would not end.
        if (above < 20) {
            for (String called : calledBy.getOrDefault(name, Set.of())) {
                if (calledBy.containsKey(called) && !called.equals(name)) {
                    deepest = Math.max(deepest, depth(calledBy, called, above + 1));
                }
            }
        }
        return 1 + deepest;
    }
}
