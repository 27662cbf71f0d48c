import java.io.IOException;
import java.lang.reflect.InvocationTargetException;
import java.lang.reflect.Method;
import java.nio.file.DirectoryStream;
import java.nio.file.Files;
import java.nio.file.Path;
import java.util.List;
import java.util.Set;
import java.util.TreeSet;
import java.util.regex.Matcher;
import java.util.regex.Pattern;

/** What README.md says is so: its run of calls answers as it tells, shows every call, and it names every test. */
public final class ReadmeTest {
    private static final Pattern CALL = Pattern.compile("x\\.(\\w+)\\((.*)\\);\\s+// (\\S+).*");
    private static final Check CHECK = new Check();

    public static void main(String[] args) throws IOException, ReflectiveOperationException {
        List<String> lines = Files.readAllLines(Path.of("README.md"));
        runIsSo(lines);
        testsAreNamed(String.join("\n", lines));
        CHECK.end();
    }

    private static void runIsSo(List<String> lines) throws ReflectiveOperationException {
        CHECK.begin("the run of README.md");
        SliceDrift x = new SliceDrift();
        Set<String> shown = new TreeSet<>();
        for (String line : lines) {
            Matcher call = CALL.matcher(line);
            if (call.matches()) {
                shown.add(call.group(1));
                CHECK.due(line, numberOf(call.group(3)), answer(x, call.group(1), call.group(2).split(", ")));
            } else if (line.startsWith("x.")) {
                CHECK.due("no answer is told: " + line, 1, 0);
            }
        }
        for (Method method : SliceDrift.class.getDeclaredMethods()) {
            if (java.lang.reflect.Modifier.isPublic(method.getModifiers())) {
                CHECK.due("is shown: " + method.getName(), 1, shown.contains(method.getName()) ? 1 : 0);
            }
        }
    }

    private static long answer(SliceDrift x, String name, String[] told) throws ReflectiveOperationException {
        for (Method method : SliceDrift.class.getMethods()) {
            if (method.getName().equals(name) && method.getParameterCount() == told.length) {
                return answer(x, method, told);
            }
        }
        throw new NoSuchMethodException(name);
    }

    private static long answer(SliceDrift x, Method method, String[] told) throws ReflectiveOperationException {
        Object[] given = new Object[told.length];
        for (int i = 0; i < told.length; i++) {
            boolean yesOrNo = method.getParameterTypes()[i] == boolean.class;
            given[i] = yesOrNo ? (Object) Boolean.valueOf(told[i]) : (Object) (int) numberOf(told[i]);
        }
        try {
            return ((Number) method.invoke(x, given)).longValue();
        } catch (InvocationTargetException e) {
            if (e.getCause() instanceof ArithmeticException) {
                return Check.THROWS;
            }
            throw e;
        }
    }

    private static long numberOf(String told) throws ReflectiveOperationException {
        if (told.equals("ArithmeticException")) {
            return Check.THROWS;
        }
        String name = told.replace("SliceDrift.", "");
        if (Character.isUpperCase(name.charAt(0))) {
            return SliceDrift.class.getField(name).getInt(null);
        }
        return Long.parseLong(name);
    }

    private static void testsAreNamed(String readme) throws IOException {
        CHECK.begin("README.md names");
        try (DirectoryStream<Path> tests = Files.newDirectoryStream(Path.of("src/test/java"), "*.java")) {
            for (Path test : tests) {
                String name = test.getFileName().toString().replace(".java", "");
                CHECK.due(name, 1, readme.matches("(?s).*\\b" + name + "\\b.*") ? 1 : 0);
            }
        }
    }
}
