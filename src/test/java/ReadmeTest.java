import java.io.File;
import java.lang.reflect.Method;
import java.lang.reflect.Modifier;
import java.net.URL;
import java.net.URLClassLoader;
import java.nio.file.Files;
import java.nio.file.Path;
import java.util.ArrayList;
import java.util.Comparator;
import java.util.List;
import java.util.Set;
import java.util.TreeSet;
import java.util.regex.Matcher;
import java.util.regex.Pattern;
import java.util.stream.Stream;
import javax.tools.JavaCompiler;
import javax.tools.ToolProvider;

/** README.md: its Java blocks are compiled as one run and each answer that they show is compared. */
public final class ReadmeTest {
    private static final Pattern BLOCK = Pattern.compile("(?ms)^```java\n(.*?)^```$");
    private static final Pattern SHOWN = Pattern.compile("x\\.([a-z]+)\\((.*)\\); *// (-?\\d+|BAD|STATE|FULL|NONE)(: \\S.*)?");
    private static final int CALLS_MAX = 512;

    private static int wrong = 0;
    private static int shown = 0;
    private static int calls = 0;
    private static final Set<String> names = new TreeSet<>();

    private ReadmeTest() {
    }

    private static void say(String what) {
        wrong++;
        System.out.println("README.md: " + what);
    }

    /** What the compiled page says of each call that shows its answer. */
    public static void due(String call, int got, int want) {
        if (got != want) say(call + " answered " + got + ", the page says " + want);
    }

    /** Counts the calls that bring the text, too: the document promises no more than 512. */
    public static void count() {
        calls++;
    }

    private static String programOf(String page) {
        StringBuilder s = new StringBuilder("public final class Page {\npublic static void run() {\n");
        Matcher block = BLOCK.matcher(page);
        while (block.find()) {
            for (String line : block.group(1).split("\n")) s.append(lineOf(line)).append('\n');
        }
        return s.append("}\n}\n").toString();
    }

    private static String lineOf(String line) {
        Matcher call = SHOWN.matcher(line);
        if (call.matches()) {
            shown++;
            names.add(call.group(1));
            String told = "x." + call.group(1) + "(" + call.group(2) + ")";
            boolean named = Character.isLetter(call.group(3).charAt(0));
            return "ReadmeTest.count(); ReadmeTest.due(\"" + told + "\", " + told + ", "
                + (named ? "DropCapitals." : "") + call.group(3) + ");";
        }
        // a text is fed by a loop; any other call must show its answer
        if (line.startsWith("for ") && line.contains(" x.feed(")) {
            return line.replaceFirst("x\\.feed\\((.*)\\);", "{ ReadmeTest.count(); x.feed($1); }");
        }
        if (line.contains("x.")) say("a call without its answer: " + line);
        return line;
    }

    private static void runPage(String program) throws Exception {
        JavaCompiler compiler = ToolProvider.getSystemJavaCompiler();
        if (compiler == null) {
            say("there is no compiler to try it with");
            return;
        }
        Path out = Files.createTempDirectory("readme");
        try {
            Path source = out.resolve("Page.java");
            Files.writeString(source, program);
            int failed = compiler.run(null, System.out, System.out, "-cp", System.getProperty("java.class.path"),
                "-d", out.toString(), source.toString());
            if (failed != 0) {
                say("what it shows does not compile");
                return;
            }
            try (URLClassLoader loader = new URLClassLoader(new URL[] {out.toUri().toURL()})) {
                loader.loadClass("Page").getMethod("run").invoke(null);
            }
        } finally {
            remove(out);
        }
    }

    private static void remove(Path directory) throws Exception {
        List<Path> all = new ArrayList<>();
        try (Stream<Path> found = Files.walk(directory)) {
            found.sorted(Comparator.reverseOrder()).forEach(all::add);
        }
        for (Path p : all) Files.delete(p);
    }

    private static void lookForCalls() {
        for (Method m : DropCapitals.class.getDeclaredMethods()) {
            if (Modifier.isPublic(m.getModifiers()) && !names.contains(m.getName())) say("it does not show " + m.getName());
        }
        if (calls > CALLS_MAX) say(calls + " calls of one object");
    }

    private static void lookForTests(String page) {
        File[] tests = new File("src/test/java").listFiles();
        File[] helps = new File("src/test/help").listFiles();
        Set<String> there = new TreeSet<>();
        for (File[] files : new File[][] {tests, helps}) {
            if (files == null) continue;
            for (File f : files) {
                String name = f.getName().replace(".java", "");
                there.add(name);
                if (!page.contains("`" + name + "`")) say("it does not name " + name);
            }
        }
        Matcher named = Pattern.compile("`(\\w+Test)`").matcher(page);
        while (named.find()) {
            if (!there.contains(named.group(1))) say("there is no " + named.group(1));
        }
    }

    public static void main(String[] args) throws Exception {
        String page = Files.readString(Path.of("README.md"));
        runPage(programOf(page));
        lookForCalls();
        lookForTests(page);
        System.out.println(shown + " answers shown; " + (wrong == 0 ? "all hold" : wrong + " things do not hold"));
        if (wrong != 0) System.exit(1);
    }
}
