import java.io.IOException;
import java.lang.reflect.Field;
import java.lang.reflect.Method;
import java.lang.reflect.Modifier;
import java.nio.file.Files;
import java.nio.file.Path;
import java.util.ArrayList;
import java.util.Arrays;
import java.util.HashMap;
import java.util.List;
import java.util.Map;
import java.util.Set;
import java.util.TreeSet;
import java.util.regex.Matcher;
import java.util.regex.Pattern;

/** The rules of LANGUAGE.md that can be read off the class and its text; each check bears its rule's number. */
public final class LanguageTest {
    private static final Path SOURCE = Path.of("src/main/java/SliceDrift.java");
    private static final Pattern METHOD = Pattern.compile("( {4}| {8})(?! )[\\w\\[\\] ]+ (\\w+)\\(.*\\{");
    private static final Set<String> LIBRARY = Set.of("Arrays", "Math", "Long", "System", "ArithmeticException");
    private static final Set<String> USED = Set.of("Arrays.fill", "Math.abs", "Math.max", "Math.min",
            "Long.bitCount", "System.arraycopy");
    private static final String[] LEFT_OUT = {"->", "::", "package", "protected", "try", "catch", "finally",
        "synchronized", "assert", "float", "double", "instanceof", "while", "do", "clone", "equals", "hashCode",
        "toString", "Exact"};
    private static final Check CHECK = new Check();

    public static void main(String[] args) throws IOException {
        List<String> lines = new ArrayList<>();
        for (String line : Files.readAllLines(SOURCE)) {
            lines.add(withoutComment(line));
        }
        List<Class<?>> classes = new ArrayList<>(List.of(SliceDrift.class.getDeclaredClasses()));
        classes.add(SliceDrift.class);
        for (Class<?> one : classes) {
            methods(one);
            fields(one);
        }
        CHECK.due("rule 11: some twelve classes", 1, classes.size() <= 12 ? 1 : 0);
        words(String.join("\n", lines));
        newObjects(lines);
        depths(bodies(lines));
        CHECK.end();
    }

    private static String withoutComment(String line) {
        return line.replaceAll("\"[^\"]*\"", "\"\"").replaceAll("//.*|/\\*.*?\\*/", "");
    }

    private static void methods(Class<?> one) {
        CHECK.begin(one.getSimpleName());
        if (one != SliceDrift.class) {
            int modifiers = one.getModifiers();
            CHECK.due("rule 1: static", 1, Modifier.isStatic(modifiers) ? 1 : 0);
            CHECK.due("rule 1: neither public nor protected", 0, modifiers & (Modifier.PUBLIC | Modifier.PROTECTED));
        }
        Set<String> face = new TreeSet<>();
        for (Method method : SliceDrift.class.getMethods()) {
            face.add(method.getName());
        }
        for (Method method : one.getDeclaredMethods()) {
            boolean open = Modifier.isPublic(method.getModifiers());
            CHECK.due("rule 1: the face's name " + method, 1, open || !face.contains(method.getName()) ? 1 : 0);
            CHECK.due("rule 11: parameters of " + method, 1, method.getParameterCount() <= 7 ? 1 : 0);
        }
    }

    private static void fields(Class<?> one) {
        int many = 0;
        for (Field field : one.getDeclaredFields()) {
            Class<?> type = field.getType();
            boolean constant = Modifier.isStatic(field.getModifiers());
            boolean numbers = type.isPrimitive() || type.isArray() && type.getComponentType().isPrimitive();
            boolean own = type.getEnclosingClass() == SliceDrift.class;
            CHECK.due("rule 3: type of " + field, 1, numbers || own ? 1 : 0);
            boolean still = Modifier.isFinal(field.getModifiers()) && type.isPrimitive();
            CHECK.due("rule 5: " + field, 1, !constant || still ? 1 : 0);
            many += constant ? 0 : 1;
        }
        CHECK.due("rule 11: fields", 1, many <= 20 ? 1 : 0);
    }

    private static void words(String text) {
        CHECK.begin("words");
        CHECK.due("rule 3: characters 0 to 255", 1, text.chars().allMatch(c -> c < 128) ? 1 : 0);
        for (String word : LEFT_OUT) {
            boolean letters = Character.isLetter(word.charAt(0));
            String sought = letters ? word.equals("Exact") ? "Exact\\(" : "\\b" + word + "\\b" : Pattern.quote(word);
            CHECK.due("left out: " + word, 0, Pattern.compile(sought).matcher(text).find() ? 1 : 0);
        }
        Set<String> known = new TreeSet<>(LIBRARY);
        known.add("SliceDrift");
        for (Class<?> own : SliceDrift.class.getDeclaredClasses()) {
            known.add(own.getSimpleName());
        }
        Matcher names = Pattern.compile("\\b[A-Z]\\w*[a-z]\\w*").matcher(text);
        while (names.find()) {
            CHECK.due("rule 4: " + names.group(), 1, known.contains(names.group()) ? 1 : 0);
        }
        Matcher calls = Pattern.compile("\\b(Arrays|Math|Long|System)\\.\\w+(?!;)\\b").matcher(text);
        while (calls.find()) {
            CHECK.due("rule 4: " + calls.group(), 1, USED.contains(calls.group()) ? 1 : 0);
        }
    }

    /** Rule 12, and what README.md says of it: all arrays and objects are made by fields, but for what is thrown. */
    private static void newObjects(List<String> lines) {
        CHECK.begin("rule 12");
        for (String line : lines) {
            if (line.matches(".*\\bnew\\b.*")) {
                boolean field = line.matches("\\s*private final [\\w\\[\\]]+ \\w+ = new \\w+[\\[(].*;");
                boolean thrown = line.matches("\\s*throw new ArithmeticException\\(\"\"\\);");
                CHECK.due(line, 1, field || thrown ? 1 : 0);
            }
        }
    }

    /** The text of each method by its name; two of one name are taken together. */
    private static Map<String, String> bodies(List<String> lines) {
        CHECK.begin("rule 11: some sixty lines");
        Map<String, String> bodies = new HashMap<>();
        for (int at = 0; at < lines.size(); at++) {
            Matcher head = METHOD.matcher(lines.get(at));
            if (head.matches() && !lines.get(at).contains(" class ")) {
                int end = at + 1;
                while (!lines.get(end).equals(head.group(1) + "}")) {
                    end++;
                }
                CHECK.due(head.group(2), 1, end - at <= 60 ? 1 : 0);
                bodies.merge(head.group(2), String.join("\n", lines.subList(at + 1, end)), (a, b) -> a + "\n" + b);
            }
        }
        return bodies;
    }

    private static void depths(Map<String, String> bodies) {
        CHECK.begin("rule 11: calls go at most eight deep, and none calls itself");
        Set<String> all = new TreeSet<>();
        for (Class<?> one : SliceDrift.class.getDeclaredClasses()) {
            Arrays.stream(one.getDeclaredMethods()).forEach(m -> all.add(m.getName()));
        }
        Arrays.stream(SliceDrift.class.getDeclaredMethods()).forEach(m -> all.add(m.getName()));
        all.add("SliceDrift");
        CHECK.due("all methods are found " + bodies.keySet(), 1, all.equals(bodies.keySet()) ? 1 : 0);
        for (String name : bodies.keySet()) {
            CHECK.due(name, 1, depth(name, bodies, 1) <= 8 ? 1 : 0);
        }
    }

    private static int depth(String name, Map<String, String> bodies, int level) {
        int deepest = level;
        Matcher calls = Pattern.compile("(\\w+)\\(").matcher(bodies.get(name));
        while (level <= 8 && calls.find()) {
            if (bodies.containsKey(calls.group(1))) {
                deepest = Math.max(deepest, depth(calls.group(1), bodies, level + 1));
            }
        }
        return deepest;
    }
}
