import java.io.IOException;
import java.lang.reflect.InvocationTargetException;
import java.lang.reflect.Method;
import java.lang.reflect.Modifier;
import java.nio.file.DirectoryStream;
import java.nio.file.Files;
import java.nio.file.Path;
import java.util.Map;
import java.util.TreeMap;
import java.util.regex.Matcher;
import java.util.regex.Pattern;

/** README.md, which would mislead if its example answered otherwise, or if a call or a test were left out. */
public final class ReadmeTest {
    private static final Path README = Path.of("README.md"), TESTS = Path.of("src/test/java");
    private static final int LEAST_CALLS = 10;

    private static int wrong = 0;

    private static void due(String what, boolean isSo) {
        if (!isSo) {
            wrong++;
            System.out.println("README.md: " + what);
        }
    }

    public static void main(String[] args) throws IOException, ReflectiveOperationException {
        String readme = Files.readString(README);
        Map<String, Method> face = face();
        example(readme, face);
        for (String name : face.keySet()) {
            due(name + " is not named", readme.contains("`" + name + "`"));
        }
        try (DirectoryStream<Path> tests = Files.newDirectoryStream(TESTS, "*.java")) {
            for (Path test : tests) {
                String name = test.getFileName().toString().replace(".java", "");
                due(name + " is not named", readme.contains("- `" + name + "`"));
            }
        }
        System.out.println(wrong == 0 ? "the page tells the truth" : wrong + " faults of the page");
        if (wrong != 0) {
            System.exit(1);
        }
    }

    private static Map<String, Method> face() {
        Map<String, Method> face = new TreeMap<>();
        for (Method m : WarmTubes.class.getDeclaredMethods()) {
            if (Modifier.isPublic(m.getModifiers())) {
                face.put(m.getName(), m);
            }
        }
        return face;
    }

    private static void example(String readme, Map<String, Method> face) throws ReflectiveOperationException {
        WarmTubes x = new WarmTubes();
        Matcher text = Pattern.compile("String text = \"(.*)\";").matcher(readme);
        due("no text of a house", text.find());
        for (char letter : text.group(1).toCharArray()) {
            x.feed(letter);
        }
        int calls = 0;
        Matcher told = Pattern.compile("(?m)^x\\.(\\w+)\\(([^)]*)\\); +// (-?\\d+): ").matcher(readme);
        while (told.find()) {
            calls++;
            long got = answer(x, face.get(told.group(1)), told.group(2));
            due(told.group() + " answers " + got, got == Long.parseLong(told.group(3)));
        }
        due("the example has " + calls + " calls", calls >= LEAST_CALLS);
        long lines = readme.lines().filter(line -> line.startsWith("x.")).count();
        due(lines + " calls, " + calls + " with an answer", lines == calls);
    }

    private static long answer(WarmTubes x, Method call, String told)
            throws IllegalAccessException, InvocationTargetException {
        String[] parts = told.isEmpty() ? new String[0] : told.split(", ");
        Object[] numbers = new Object[parts.length];
        for (int i = 0; i < parts.length; i++) {
            numbers[i] = Integer.valueOf(parts[i]);
        }
        return ((Number) call.invoke(x, numbers)).longValue();
    }
}
