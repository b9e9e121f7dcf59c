import java.lang.reflect.Method;
import java.lang.reflect.Modifier;
import java.net.URL;
import java.net.URLClassLoader;
import java.nio.file.Files;
import java.nio.file.Path;
import java.util.Comparator;
import java.util.List;
import java.util.regex.Matcher;
import java.util.regex.Pattern;
import java.util.stream.Stream;
import javax.tools.ToolProvider;

/** README.md: its code compiles and answers as it says, and it tells every call of the face, every code and every test. */
public final class ReadmeTest {
    private static final List<Integer> CODES = List.of(-1, -2, -3, -4, -5, -6, -7, -8, -11, -12, -13, -31, -32, -33, -34, -2000000);
    private static final Pattern BLOCK = Pattern.compile("```java\n(.*?)```", Pattern.DOTALL);
    private static final Pattern ANSWERED = Pattern.compile("(x\\.\\w+\\(.*\\));\\s*// (-?\\d+)");
    private static final Pattern CALL = Pattern.compile("x\\.\\w+\\(.*\\);.*");

    private static int wrong = 0;
    private static int asked = 0;

    public static void main(String[] args) throws Exception {
        String page = Files.readString(Path.of("README.md"));
        tellsAll(page);
        answersAsTold(page);
        System.out.println(wrong == 0 ? "all " + asked + " answers on the page are as due" : wrong + " things are not as due");
        if (wrong != 0) {
            System.exit(1);
        }
    }

    private static void complain(String what) {
        wrong++;
        System.out.println("README.md: " + what);
    }

    private static void tellsAll(String page) throws Exception {
        for (Method method : FloorsByLot.class.getDeclaredMethods()) {
            boolean told = Pattern.compile("`" + method.getName() + "(\\([^`]*\\))?`").matcher(page).find();
            if (Modifier.isPublic(method.getModifiers()) && !told) {
                complain("doesn't tell " + method.getName());
            }
        }
        for (int code : CODES) {
            if (!Pattern.compile("(?m)^\\| " + code + "( \\(`NONE`\\))? \\|").matcher(page).find()) {
                complain("doesn't tell the code " + code);
            }
        }
        try (Stream<Path> tests = Files.list(Path.of("src/test/java"))) {
            tests.map(test -> test.getFileName().toString().replace(".java", "")).filter(name -> name.endsWith("Test"))
                .filter(name -> !page.contains("`" + name + "`")).forEach(name -> complain("doesn't tell " + name));
        }
    }

    /** Each call with a number behind it, in the order of the page, all on one object. */
    private static void answersAsTold(String page) throws Exception {
        StringBuilder helpers = new StringBuilder();
        StringBuilder steps = new StringBuilder();
        Matcher block = BLOCK.matcher(page);
        while (block.find()) {
            if (block.group(1).startsWith("static ")) {
                helpers.append(block.group(1));
            } else {
                block.group(1).lines().forEach(line -> steps.append(asStep(line)).append('\n'));
            }
        }
        run("public final class OnThePage {\n" + helpers + "public static void all() {\n" + steps + "}\n}\n");
    }

    private static String asStep(String line) {
        Matcher answered = ANSWERED.matcher(line);
        if (answered.matches()) {
            return "ReadmeTest.due(\"" + answered.group(1) + "\", " + answered.group(1) + ", " + answered.group(2) + "L);";
        }
        if (CALL.matcher(line).matches()) {
            complain("a call without its answer: " + line);
        }
        return line;
    }

    public static void due(String call, long got, long told) {
        asked++;
        if (got != told) {
            complain(call + " answered " + got + ", told is " + told);
        }
    }

    private static void run(String source) throws Exception {
        Path room = Files.createTempDirectory("onThePage");
        try {
            Path file = Files.writeString(room.resolve("OnThePage.java"), source);
            int failed = ToolProvider.getSystemJavaCompiler().run(null, null, null,
                "-cp", System.getProperty("java.class.path"), "-d", room.toString(), file.toString());
            if (failed != 0) {
                complain("its code doesn't compile");
                return;
            }
            try (URLClassLoader loader = new URLClassLoader(new URL[] {room.toUri().toURL()}, ReadmeTest.class.getClassLoader())) {
                loader.loadClass("OnThePage").getMethod("all").invoke(null);
            }
        } finally {
            try (Stream<Path> all = Files.walk(room)) {
                all.sorted(Comparator.reverseOrder()).forEach(path -> path.toFile().delete());
            }
        }
        if (asked == 0) {
            complain("no answer is told");
        }
    }
}
