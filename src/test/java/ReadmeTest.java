import java.io.IOException;
import java.lang.reflect.Method;
import java.lang.reflect.Modifier;
import java.net.URL;
import java.net.URLClassLoader;
import java.nio.file.Files;
import java.nio.file.Path;
import java.util.ArrayList;
import java.util.Comparator;
import java.util.List;
import java.util.Set;
import java.util.TreeSet;
import java.util.regex.Matcher;
import java.util.regex.Pattern;
import java.util.stream.Collectors;
import java.util.stream.Stream;
import javax.tools.JavaCompiler;
import javax.tools.ToolProvider;

/** README.md is true: its Java blocks are made one program, and each call in it must answer what stands behind it. */
public final class ReadmeTest {
    private static final Check CHECK = new Check("ReadmeTest");
    private static final int MOST_CALLS = 512;
    /** A call on x, alone or in a loop, and what it answers, as a term of Java. */
    private static final Pattern TOLD = Pattern.compile("^(.*?)\\b(x\\.(\\w+)\\(.*\\)); *// ([^:]+): .+$");
    private static final String MADE = "OverSands x = new OverSands();";

    public static void main(String[] args) throws Exception {
        String page = Files.readString(Path.of("README.md"));
        List<String> lines = javaLines(page);
        everyCallTellsItsAnswer(lines);
        everyMethodIsShown(lines);
        theAnswersAreSo(lines);
        theNumbersOfRefusals(page);
        theTestsThereAre(page);
        howTheTestsAreRun(page);
        CHECK.end();
    }

    private static List<String> javaLines(String page) {
        List<String> lines = new ArrayList<>();
        Matcher block = Pattern.compile("(?ms)^```java\\n(.*?)^```$").matcher(page);
        while (block.find()) lines.addAll(List.of(block.group(1).split("\n")));
        CHECK.holds("README.md shows Java", !lines.isEmpty());
        return lines;
    }

    /** So no call can be shown that the program below does not ask. */
    private static void everyCallTellsItsAnswer(List<String> lines) {
        for (String line : lines) {
            boolean calls = Pattern.compile("\\bx\\.").matcher(line).find();
            CHECK.holds("the answer stands behind: " + line, !calls || TOLD.matcher(line).matches());
        }
        CHECK.due("the page shows one run", lines.stream().filter(MADE::equals).count(), 1);
    }

    private static void everyMethodIsShown(List<String> lines) {
        Set<String> shown = new TreeSet<>();
        for (String line : lines) {
            Matcher told = TOLD.matcher(line);
            if (told.matches()) shown.add(told.group(3));
        }
        for (Method m : OverSands.class.getDeclaredMethods()) {
            if (Modifier.isPublic(m.getModifiers())) CHECK.holds("README.md shows " + m.getName(), shown.contains(m.getName()));
        }
    }

    private static void theAnswersAreSo(List<String> lines) throws Exception {
        Path folder = Files.createTempDirectory("readme");
        try {
            List<Object[]> answers = ran(programOf(lines), folder);
            for (Object[] answer : answers) CHECK.due((String) answer[0], (Long) answer[1], (Long) answer[2]);
            CHECK.holds("an object is good for " + MOST_CALLS + " calls, asked were " + answers.size(), answers.size() <= MOST_CALLS);
            CHECK.holds("calls were asked", !answers.isEmpty());
        } finally {
            remove(folder);
        }
    }

    private static String programOf(List<String> lines) {
        StringBuilder code = new StringBuilder("public final class ReadmeCalls {\n");
        code.append("static final int UNKNOWN = OverSands.UNKNOWN, BAD = OverSands.BAD, LATE = OverSands.LATE, FULL = OverSands.FULL, NONE = OverSands.NONE;\n");
        code.append("public static final java.util.List<Object[]> ANSWERS = new java.util.ArrayList<>();\n");
        code.append("static void due(String call, long got, long want) { ANSWERS.add(new Object[] {call, got, want}); }\n");
        code.append("public static void all() {\n");
        for (String line : lines) code.append(asked(line)).append('\n');
        return code.append("}\n}\n").toString();
    }

    private static String asked(String line) {
        Matcher told = TOLD.matcher(line);
        if (!told.matches()) return line;
        return told.group(1) + "due(\"" + told.group(2) + "\", " + told.group(2) + ", " + told.group(4) + ");";
    }

    @SuppressWarnings("unchecked")
    private static List<Object[]> ran(String program, Path folder) throws Exception {
        Path source = Files.writeString(folder.resolve("ReadmeCalls.java"), program);
        JavaCompiler javac = ToolProvider.getSystemJavaCompiler();
        CHECK.holds("this Java has a javac", javac != null);
        if (javac == null) return List.of();
        int ended = javac.run(null, null, null, "-cp", System.getProperty("java.class.path"),
            "-d", folder.toString(), source.toString());
        CHECK.due("javac of the Java that README.md shows", ended, 0);
        if (ended != 0) return List.of();
        try (URLClassLoader loader = new URLClassLoader(new URL[] {folder.toUri().toURL()})) {
            Class<?> calls = loader.loadClass("ReadmeCalls");
            calls.getMethod("all").invoke(null);
            return (List<Object[]>) calls.getField("ANSWERS").get(null);
        }
    }

    private static void remove(Path folder) throws IOException {
        try (Stream<Path> inside = Files.walk(folder)) {
            for (Path path : inside.sorted(Comparator.reverseOrder()).toList()) Files.delete(path);
        }
    }

    private static void theNumbersOfRefusals(String page) throws Exception {
        Matcher row = Pattern.compile("(?m)^\\| `([A-Z]+)` \\| (-\\d+) \\|").matcher(page);
        Set<String> told = new TreeSet<>();
        while (row.find()) {
            told.add(row.group(1));
            CHECK.due("the number of " + row.group(1), Long.parseLong(row.group(2)), OverSands.class.getField(row.group(1)).getInt(null));
        }
        CHECK.holds("all five constants are told: " + told, told.equals(Set.of("UNKNOWN", "BAD", "LATE", "FULL", "NONE")));
    }

    private static void theTestsThereAre(String page) throws IOException {
        Set<String> told = new TreeSet<>();
        Matcher row = Pattern.compile("(?m)^\\| `(\\w+Test)` \\|").matcher(page);
        while (row.find()) told.add(row.group(1));
        try (Stream<Path> files = Files.list(Path.of("src/test/java"))) {
            Set<String> there = files.map(f -> f.getFileName().toString()).filter(n -> n.endsWith("Test.java"))
                .map(n -> n.substring(0, n.length() - ".java".length())).collect(Collectors.toCollection(TreeSet::new));
            CHECK.holds("README.md's tests " + told + " are those that there are " + there, told.equals(there));
        }
    }

    private static void howTheTestsAreRun(String page) {
        CHECK.holds("README.md says how the tests are run", Pattern.compile("(?m)^```\\n\\.ci/run\\n```$").matcher(page).find());
        CHECK.holds(".ci/run can be run", Files.isExecutable(Path.of(".ci/run")));
    }
}
