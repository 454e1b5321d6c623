import java.io.IOException;
import java.lang.reflect.Field;
import java.lang.reflect.Method;
import java.lang.reflect.Modifier;
import java.nio.charset.StandardCharsets;
import java.nio.file.Files;
import java.nio.file.Path;
import java.util.ArrayList;
import java.util.HashMap;
import java.util.HashSet;
import java.util.List;
import java.util.Map;
import java.util.Set;
import java.util.TreeSet;
import java.util.regex.Matcher;
import java.util.regex.Pattern;

/** The rules of LANGUAGE.md that can be read off the source or the class; its other rules are for readers. */
public final class LanguageTest {
    private static final int MOST_METHOD_LINES = 60;
    private static final int MOST_PARAMETERS = 7;
    private static final int MOST_CLASSES = 12;
    private static final int MOST_FIELDS = 20;
    private static final int MOST_DEPTH = 8;
    private static final Set<String> IMPORTS = Set.of("java.util.Arrays", "java.util.ArrayList", "java.util.List",
            "java.util.Iterator", "java.util.NoSuchElementException");
    private static final Set<String> LIBRARY = Set.of("System.arraycopy", "Arrays.fill", "Arrays.copyOf",
            "Arrays.copyOfRange", "Math.min", "Math.max", "Math.abs", "Math.floorDiv", "Math.floorMod",
            "Integer.bitCount", "Integer.compare", "Long.bitCount", "Long.compare");
    private static final Pattern METHOD = Pattern.compile(
            "^((?: {4}){1,2})(?:(?:public|private|static|final) )*[\\w\\[\\]]+ (\\w+)\\(([^)]*)\\)(?: throws \\w+)? \\{$");
    /** A call with a bracket behind its name, but for those of words like if. */
    private static final Pattern CALL = Pattern.compile("(new )?\\b(?!if|for|while|switch|return)(\\w+)\\(");

    private final Check check = new Check("LanguageTest");
    private final String source;
    private final Set<String> own = new HashSet<>();
    private final Map<String, Set<String>> calls = new HashMap<>();

    private LanguageTest(String source) {
        this.source = source;
    }

    public static void main(String[] args) throws IOException {
        String told = Files.readString(Path.of("src/main/java/BurntWays.java"), StandardCharsets.UTF_8);
        LanguageTest test = new LanguageTest(withoutTexts(told));
        test.classes();
        test.words();
        test.library();
        test.made();
        test.methods();
        test.depth();
        test.check.end();
    }

    /** The source without comments, and with texts and signs left empty. */
    private static String withoutTexts(String told) {
        return told.replaceAll("(?s)/\\*.*?\\*/", "")
                .replaceAll("\"(?:\\\\.|[^\"\\\\])*\"", "\"\"")
                .replaceAll("'(?:\\\\.|[^'\\\\])'", "' '")
                .replaceAll("//[^\n]*", "");
    }

    private static List<Class<?>> allClasses() {
        List<Class<?>> all = new ArrayList<>(List.of(BurntWays.class.getDeclaredClasses()));
        all.add(BurntWays.class);
        return all;
    }

    private void classes() {
        check.due("more than " + MOST_CLASSES + " classes", allClasses().size() > MOST_CLASSES, false);
        for (Class<?> c : allClasses()) {
            own.add(c.getSimpleName());
            int fields = 0;
            for (Field f : c.getDeclaredFields()) {
                boolean isStatic = Modifier.isStatic(f.getModifiers());
                fields += isStatic ? 0 : 1;
                check.due(f + " is static, but not final", isStatic && !Modifier.isFinal(f.getModifiers()), false);
            }
            check.due(c + " has more than " + MOST_FIELDS + " fields", fields > MOST_FIELDS, false);
        }
    }

    private void absent(String pattern) {
        check.due("the source has " + pattern, Pattern.compile(pattern).matcher(source).find(), false);
    }

    private void words() {
        String[] words = {
            "try", "catch", "finally", "synchronized", "assert", "package", "protected", "native", "volatile",
            "transient", "strictfp", "Object", "Thread", "Random", "hashCode", "toString", "equals", "getMessage",
            "getClass", "main", "instanceof", "double", "float",
        };
        for (String word : words) {
            absent("\\b" + word + "\\b");
        }
        absent("->");
        absent("::");
        absent("@");
        absent("static \\{");
        absent("\\w+Exact\\b");
        absent("while \\(true\\)");
        absent("for \\(;");
        absent("\\[\\]\\[\\]\\[\\]");
        absent("\"\" \\+|\\+ \"\"");
        absent("[^\\x00-\\x7f]");
        Matcher m = Pattern.compile("import (?:static )?([\\w.*]+);").matcher(source);
        while (m.find()) {
            check.due("import of " + m.group(1), IMPORTS.contains(m.group(1)), true);
        }
    }

    private void library() {
        Matcher m = Pattern.compile("\\b([A-Z][a-z]\\w*)\\.(\\w+)").matcher(source);
        while (m.find()) {
            boolean isFine = own.contains(m.group(1)) || LIBRARY.contains(m.group());
            check.due("use of " + m.group(), isFine, true);
        }
    }

    /** No objects but rows of numbers and those of the classes inside; an exception is thrown at once. */
    private void made() {
        Matcher m = Pattern.compile("(throw )?new (\\w+)").matcher(source);
        while (m.find()) {
            boolean isRow = Set.of("int", "long", "byte", "boolean").contains(m.group(2));
            boolean isOwn = own.contains(m.group(2));
            boolean isThrown = m.group(1) != null && m.group(2).equals("NoSuchElementException");
            check.due(m.group(), isRow || isOwn || isThrown, true);
        }
    }

    private void methods() {
        String[] lines = source.split("\n", -1);
        int found = 0;
        for (int i = 0; i < lines.length; i++) {
            Matcher m = METHOD.matcher(lines[i]);
            if (m.matches() && !own.contains(m.group(2))) {
                int end = i;
                while (end < lines.length - 1 && !lines[end].equals(m.group(1) + "}")) {
                    end++;
                }
                check.due(m.group(2) + " is long", end - i + 1 > MOST_METHOD_LINES, false);
                check.due(m.group(2) + " takes many", m.group(3).split(",").length > MOST_PARAMETERS, false);
                noteCalls(m.group(2), lines, i + 1, end);
                found++;
            }
        }
        int declared = 0;
        for (Class<?> c : allClasses()) {
            for (Method m : c.getDeclaredMethods()) {
                declared += m.isSynthetic() ? 0 : 1;
            }
        }
        check.due("methods that are read off the source", found, declared);
    }

    private void noteCalls(String method, String[] lines, int from, int to) {
        Set<String> called = calls.computeIfAbsent(method, name -> new TreeSet<>());
        for (int i = from; i < to; i++) {
            Matcher m = CALL.matcher(lines[i]);
            while (m.find()) {
                if (m.group(1) == null) {
                    called.add(m.group(2));
                }
            }
        }
    }

    /** Methods of one name count as one, so that the depth may be told too great, never too small. */
    private void depth() {
        int deepest = 0;
        for (String method : calls.keySet()) {
            deepest = Math.max(deepest, depthOf(method, new HashSet<>()));
        }
        System.out.println("LanguageTest: calls go " + deepest + " deep");
        check.due("calls go more than " + MOST_DEPTH + " deep", deepest > MOST_DEPTH, false);
    }

    private int depthOf(String method, Set<String> open) {
        if (!calls.containsKey(method)) {
            return 0;
        }
        check.due(method + " calls itself", open.add(method), true);
        int below = 0;
        for (String called : calls.get(method)) {
            below = open.contains(called) ? 99 : Math.max(below, depthOf(called, open));
        }
        open.remove(method);
        return 1 + below;
    }
}
