import java.lang.management.ManagementFactory;
import java.lang.reflect.Constructor;
import java.lang.reflect.Field;
import java.lang.reflect.Method;
import java.lang.reflect.Modifier;
import java.nio.charset.StandardCharsets;
import java.nio.file.Files;
import java.nio.file.Path;
import java.util.Arrays;
import java.util.HashSet;
import java.util.Set;
import java.util.TreeSet;
import java.util.regex.Matcher;
import java.util.regex.Pattern;
import java.util.stream.Collectors;

/** The face of the document, and of LANGUAGE.md what can be seen from outside or from the words of the source. */
public final class LanguageTest {
    private static final Check CHECK = new Check("LanguageTest");
    private static final String[] FACE = {
        "int write(int)", "int wipe()", "int fault()", "int bay()", "int about(int)", "int cell(int,int)", "int walker(int,int)",
        "int deep(int,int)", "int head(int,int)", "int step()", "int climb(int)", "int undo()", "int gone(int,int,int,int)",
        "int latest(int)", "int safest(int,int)", "int shells(int)", "int cut(int)", "int judged(int,int,int)", "int ahead()",
        "int aheadOf(int)", "int saved()", "int channel(int,int,int,int,int,boolean)", "int sticks(int,int,int,boolean)",
        "int wind(int,int,int,int,boolean)", "long seed(long)", "int fog(int,int,int)", "int keep(int)", "int again(int)",
    };

    public static void main(String[] args) throws Exception {
        face();
        constants();
        classesInside();
        words();
        noCallMakesObjects();
        CHECK.end();
    }

    private static void face() {
        Class<?> c = OverSands.class;
        CHECK.holds("the class is public and final", Modifier.isPublic(c.getModifiers()) && Modifier.isFinal(c.getModifiers()));
        Set<String> seen = new TreeSet<>();
        for (Method m : c.getDeclaredMethods()) {
            if (Modifier.isPublic(m.getModifiers())) seen.add(m.getReturnType() + " " + m.getName() + "(" + told(m.getParameterTypes()) + ")");
            else CHECK.holds(m + " is private", Modifier.isPrivate(m.getModifiers()));
        }
        CHECK.holds("the public methods are those of the document: " + seen, seen.equals(new TreeSet<>(Arrays.asList(FACE))));
        Constructor<?>[] makers = c.getDeclaredConstructors();
        CHECK.due("constructors", makers.length, 1);
        CHECK.due("parameters of the constructor", makers[0].getParameterCount(), 0);
        CHECK.holds("the constructor is public", Modifier.isPublic(makers[0].getModifiers()));
    }

    private static String told(Class<?>[] types) {
        return Arrays.stream(types).map(Class::getName).collect(Collectors.joining(","));
    }

    private static void constants() throws Exception {
        Set<String> open = new TreeSet<>();
        int own = 0;
        for (Field f : OverSands.class.getDeclaredFields()) {
            if (Modifier.isPublic(f.getModifiers())) open.add(f.getName());
            else CHECK.holds(f + " is private", Modifier.isPrivate(f.getModifiers()));
            if (Modifier.isStatic(f.getModifiers())) CHECK.holds(f + " is final", Modifier.isFinal(f.getModifiers()));
            else own++;
        }
        CHECK.holds("a class has some twenty fields at most", own <= 20);
        CHECK.holds("the public constants: " + open, open.equals(new TreeSet<>(Set.of("UNKNOWN", "BAD", "LATE", "FULL", "NONE"))));
        CHECK.due("UNKNOWN", OverSands.UNKNOWN, -1);
        CHECK.due("BAD", OverSands.BAD, -2);
        CHECK.due("LATE", OverSands.LATE, -3);
        CHECK.due("FULL", OverSands.FULL, -4);
        CHECK.due("NONE", OverSands.NONE, -9);
    }

    private static void classesInside() {
        Class<?>[] inside = OverSands.class.getDeclaredClasses();
        CHECK.holds("there are some twelve classes at most", inside.length <= 11);
        Set<String> face = new HashSet<>();
        for (String call : FACE) face.add(call.substring(call.indexOf(' ') + 1, call.indexOf('(')));
        for (Class<?> c : inside) {
            CHECK.holds(c + " is static", Modifier.isStatic(c.getModifiers()));
            CHECK.holds(c + " is not public", !Modifier.isPublic(c.getModifiers()) && !Modifier.isProtected(c.getModifiers()));
            for (Method m : c.getDeclaredMethods()) {
                CHECK.holds(m + " bears no name of the face", !face.contains(m.getName()));
                CHECK.holds(m + " takes seven at most", m.getParameterCount() <= 7);
            }
        }
        for (Method m : OverSands.class.getDeclaredMethods()) {
            CHECK.holds(m + " bears no name of the face", Modifier.isPublic(m.getModifiers()) || !face.contains(m.getName()));
        }
    }

    private static void words() throws Exception {
        byte[] bytes = Files.readAllBytes(Path.of("src/main/java/OverSands.java"));
        for (byte b : bytes) if (b <= 0) CHECK.holds("the source's signs are 1 to 127", false);
        String code = new String(bytes, StandardCharsets.US_ASCII).replaceAll("(?s)/\\*.*?\\*/", " ").replaceAll("//[^\n]*", " ");
        String[] none = {"throw", "throws", "try", "catch", "synchronized", "assert", "import", "package", "double", "float", "protected",
            "instanceof", "Exception", "System.out", "Random", "Thread", "equals", "hashCode", "toString", "volatile", "transient"};
        for (String word : none) CHECK.holds("there is no " + word, !Pattern.compile("\\b" + Pattern.quote(word) + "\\b").matcher(code).find());
        CHECK.holds("there is no lambda and no method reference", !code.contains("->") && !code.contains("::"));
        CHECK.holds("no while stands without a counter", !Pattern.compile("\\bwhile\\b").matcher(code).find());
        Matcher made = Pattern.compile("\\bnew\\b").matcher(code.replaceAll("=\\s*new\\b", "= made"));
        CHECK.holds("what is made is made for a field", !made.find());
        int run = 0;
        for (String line : code.split("\n")) {
            run = line.matches(" {4,8}(public|private|void|int|boolean|long|static)\\b.*\\{\\s*") ? 0 : run + 1;
            boolean ends = line.matches(" {4,8}\\}\\s*");
            if (ends) CHECK.holds("a method has some sixty lines at most", run <= 60);
        }
    }

    /** One room holds all that a run makes: so only the constructor makes anything. */
    private static void noCallMakesObjects() {
        com.sun.management.ThreadMXBean memory = (com.sun.management.ThreadMXBean) ManagementFactory.getThreadMXBean();
        OverSands x = Check.bayOf("B9444444449" + "10" + "1" + "0" + "W35W25W14" + "T42T61" + "S3S7");
        allCalls(x);
        memory.getCurrentThreadAllocatedBytes();
        long before = memory.getCurrentThreadAllocatedBytes();
        for (int k = 0; k < 200; k++) allCalls(x);
        long made = memory.getCurrentThreadAllocatedBytes() - before;
        CHECK.holds("no call makes an object (bytes made: " + made + ")", made < 4096);
    }

    private static void allCalls(OverSands x) {
        x.wipe();
        x.write('B');
        x.fault();
        x.bay();
        x.about(7);
        x.cell(4, 4);
        x.walker(0, 2);
        x.deep(3, 3);
        x.head(0, 1);
        x.step();
        x.climb(0);
        x.keep(0);
        x.gone(0, 2, 3, 1);
        x.latest(0);
        x.safest(0, 1);
        x.shells(0);
        x.cut(0);
        x.judged(0, 8, 11111111);
        x.ahead();
        x.aheadOf(1);
        x.saved();
        x.channel(4, 4, 2, 3, 5, true);
        x.sticks(6, 9, 1, true);
        x.wind(0, 3, 3, 3, true);
        x.seed(5L);
        x.fog(0, 3, 20);
        x.undo();
        x.again(0);
    }
}
