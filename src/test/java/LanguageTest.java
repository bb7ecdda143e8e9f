import java.io.IOException;
import java.lang.reflect.Constructor;
import java.lang.reflect.Field;
import java.lang.reflect.Method;
import java.lang.reflect.Modifier;
import java.nio.file.Files;
import java.nio.file.Path;
import java.util.ArrayList;
import java.util.HashSet;
import java.util.List;
import java.util.Map;
import java.util.Set;
import java.util.TreeMap;
import java.util.TreeSet;
import java.util.regex.Matcher;
import java.util.regex.Pattern;

/** The face, against the document's own; and the rules of LANGUAGE.md that can be seen in the text of the class. */
public final class LanguageTest {
    private static final Path SOURCE = Path.of("src/main/java/WarmTubes.java");
    private static final Path DOCUMENT = Path.of("../shared/DOC.md");

    private static int wrong = 0;

    private static void rule(int number, String what, boolean kept) {
        if (!kept) {
            wrong++;
            System.out.println("rule " + number + ": " + what);
        }
    }

    public static void main(String[] args) throws IOException {
        List<String> lines = Files.readAllLines(SOURCE);
        face(Files.readString(DOCUMENT));
        members();
        words(lines);
        sizes(lines);
        depths(lines);
        System.out.println(wrong == 0 ? "the rules are kept" : wrong + " rules are broken");
        if (wrong != 0) {
            System.exit(1);
        }
    }

    private static void face(String document) {
        Set<String> due = new TreeSet<>();
        Matcher told = Pattern.compile("    public (int|long) (\\w+)\\(([^)]*)\\);").matcher(document);
        while (told.find()) {
            int many = told.group(3).isEmpty() ? 0 : told.group(3).split(",").length;
            due.add(told.group(1) + " " + told.group(2) + " " + many);
        }
        Set<String> has = new TreeSet<>();
        Set<String> names = new HashSet<>();
        for (Method m : WarmTubes.class.getDeclaredMethods()) {
            if (Modifier.isPublic(m.getModifiers())) {
                has.add(m.getReturnType() + " " + m.getName() + " " + m.getParameterCount());
                names.add(m.getName());
            }
        }
        rule(1, "the public methods are " + has + ", due are " + due, has.equals(due) && due.size() == 40);
        for (Method m : WarmTubes.class.getDeclaredMethods()) {
            rule(1, m + " bears a public name", Modifier.isPublic(m.getModifiers()) || !names.contains(m.getName()));
        }
    }

    private static void members() {
        rule(1, "the class is not public and final",
            (WarmTubes.class.getModifiers() & (Modifier.PUBLIC | Modifier.FINAL)) == (Modifier.PUBLIC | Modifier.FINAL));
        Constructor<?>[] made = WarmTubes.class.getDeclaredConstructors();
        rule(1, "the constructor", made.length == 1 && made[0].getParameterCount() == 0 && Modifier.isPublic(made[0].getModifiers()));
        Set<String> open = new TreeSet<>();
        for (Field f : WarmTubes.class.getDeclaredFields()) {
            if (!Modifier.isPrivate(f.getModifiers())) {
                open.add(f.getName());
            }
        }
        rule(1, "fields that can be seen: " + open, open.equals(new TreeSet<>(List.of("NONE", "BAD", "STATE", "FULL"))));
        for (Method m : WarmTubes.class.getDeclaredMethods()) {
            int seen = m.getModifiers() & (Modifier.PUBLIC | Modifier.PRIVATE);
            rule(1, m + " can be seen", seen != 0);
            rule(11, m + " has too many parameters", m.getParameterCount() <= 7);
        }
        Class<?>[] inside = WarmTubes.class.getDeclaredClasses();
        rule(11, "too many classes", inside.length <= 11);
        for (Class<?> c : inside) {
            rule(2, c + " is not static", Modifier.isStatic(c.getModifiers()));
            rule(1, c + " is public or protected", (c.getModifiers() & (Modifier.PUBLIC | Modifier.PROTECTED)) == 0);
            rule(2, c + " has a class inside", c.getDeclaredClasses().length == 0);
            fields(c);
            methods(c);
        }
        fields(WarmTubes.class);
    }

    private static void methods(Class<?> c) {
        Set<String> face = new HashSet<>();
        for (Method m : WarmTubes.class.getMethods()) {
            face.add(m.getName());
        }
        for (Method m : c.getDeclaredMethods()) {
            rule(1, m + " bears a public name", !Modifier.isPrivate(m.getModifiers()) || !face.contains(m.getName()));
            rule(11, m + " has too many parameters", m.getParameterCount() <= 7);
        }
    }

    private static void fields(Class<?> c) {
        int many = 0;
        for (Field f : c.getDeclaredFields()) {
            boolean isStatic = Modifier.isStatic(f.getModifiers());
            many += isStatic ? 0 : 1;
            rule(5, f + " is static, not final", !isStatic || Modifier.isFinal(f.getModifiers()));
            rule(5, f + " is of no such type", !isStatic || f.getType() == int.class || f.getType() == int[].class);
        }
        rule(11, c + " has too many fields", many <= 20);
    }

    private static void words(List<String> lines) {
        String never = "\\b(throw|throws|try|catch|finally|synchronized|assert|import|package|volatile|native|double|float"
            + "|String|StringBuilder|Object|Thread|Exception|hashCode|toString|\\w+Exact)\\b|->|::|@";
        Pattern refused = Pattern.compile(never);
        for (String line : lines) {
            String code = line.replaceAll("//.*|^\\s*/?\\*.*", "");
            rule(6, line, !refused.matcher(code).find());
            // what calls make is never given back: everything is made with the object
            rule(12, line, !code.contains("new ") || code.matches("\\s*(private )?final .*"));
            rule(4, line, line.chars().allMatch(c -> c >= 32 && c < 127));
        }
    }

    private static void sizes(List<String> lines) {
        int begun = -1;
        for (int i = 0; i < lines.size(); i++) {
            String line = lines.get(i);
            if (line.matches("( {4}| {8})\\w[^=;]*\\) \\{")) {
                begun = i;
            }
            if (line.matches(" {4}\\}| {8}\\}") && begun >= 0) {
                rule(11, lines.get(begun) + " is too long", i - begun <= 60);
                begun = line.startsWith("        ") && lines.get(begun).startsWith("    ") && !lines.get(begun).startsWith("        ")
                    ? begun : -1;
            }
        }
    }

    /** Which methods each method's text names, with a bracket behind: those are the ones that it calls. */
    private static void depths(List<String> lines) {
        Pattern begins = Pattern.compile("( {4}| {8})(?! )(?:\\w+(?:\\[\\])? )+(\\w+)\\([^=;]*\\) \\{");
        Map<String, StringBuilder> bodies = new TreeMap<>();
        StringBuilder body = new StringBuilder();
        for (String line : lines) {
            Matcher m = begins.matcher(line);
            if (m.matches()) {
                body = bodies.computeIfAbsent(m.group(2), name -> new StringBuilder());
            } else {
                body.append(line.replaceAll("//.*|^\\s*/?\\*.*", "")).append('\n');
            }
        }
        Map<String, Set<String>> calls = new TreeMap<>();
        for (String name : bodies.keySet()) {
            Set<String> called = new TreeSet<>();
            Matcher m = Pattern.compile("(\\w+)\\(").matcher(bodies.get(name));
            while (m.find()) {
                if (bodies.containsKey(m.group(1)) && !m.group(1).equals(name)) {
                    called.add(m.group(1));
                }
            }
            calls.put(name, called);
        }
        rule(11, "hardly any methods are seen", calls.size() > 80);
        for (String name : calls.keySet()) {
            List<String> chain = longest(name, calls, new HashSet<>());
            rule(11, "calls go too deep: " + chain, chain.size() <= 8);
        }
    }

    private static List<String> longest(String name, Map<String, Set<String>> calls, Set<String> open) {
        List<String> best = new ArrayList<>();
        // a method that is open already is a recursion between methods: rule 8 bounds it, this one need not
        if (!open.add(name)) {
            return best;
        }
        for (String called : calls.get(name)) {
            List<String> chain = longest(called, calls, open);
            best = chain.size() > best.size() ? chain : best;
        }
        open.remove(name);
        List<String> whole = new ArrayList<>(List.of(name));
        whole.addAll(best);
        return whole;
    }
}
