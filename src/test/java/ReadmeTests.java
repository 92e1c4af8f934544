import java.io.File;
import java.io.IOException;
import java.lang.reflect.Method;
import java.lang.reflect.Modifier;
import java.net.URL;
import java.net.URLClassLoader;
import java.nio.file.Files;
import java.nio.file.Path;
import java.util.ArrayList;
import java.util.List;
import java.util.regex.Matcher;
import java.util.regex.Pattern;
import java.util.stream.Collectors;
import java.util.stream.Stream;
import javax.tools.JavaCompiler;
import javax.tools.ToolProvider;

/** README.md: its lines of Java run and answer as it says; its tables leave out no call and no test. */
public final class ReadmeTests {
    private static final Pattern BLOCK = Pattern.compile("(?ms)^```java\\n(.*?)^```$");
    private static final Pattern ANSWERED = Pattern.compile("^(x\\..*\\)); +// (-?\\d+): .*$");

    private ReadmeTests() {
    }

    public static void main(String[] args) throws Exception {
        String page = Files.readString(Path.of("README.md"));
        calls(page);
        tests(page);
        lines(page);
        Checks.close("ReadmeTests");
    }

    private static void calls(String page) {
        for (Method method : HillBends.class.getDeclaredMethods()) {
            if (Modifier.isPublic(method.getModifiers())) {
                Matcher told = Pattern.compile("`" + method.getName() + "\\(([^)]*)\\)`").matcher(page);
                Checks.holds("a row has " + method.getName(), told.find());
                int arguments = told.group(1).isEmpty() ? 0 : told.group(1).split(", ").length;
                Checks.is("what " + method.getName() + " takes", arguments, method.getParameterCount());
            }
        }
    }

    private static void tests(String page) throws IOException {
        List<String> there;
        try (Stream<Path> files = Files.list(Path.of("src/test/java"))) {
            there = files.map(file -> file.getFileName().toString()).filter(name -> name.endsWith("Tests.java"))
                    .map(name -> name.replace(".java", "")).sorted().collect(Collectors.toList());
        }
        List<String> told = new ArrayList<>();
        Matcher row = Pattern.compile("(?m)^\\| `(\\w+Tests)` \\|").matcher(page);
        while (row.find()) {
            told.add(row.group(1));
        }
        Checks.holds("rows for " + there + ", just once", told.stream().sorted().collect(Collectors.toList()).equals(there));
    }

    private static void lines(String page) throws Exception {
        Matcher block = BLOCK.matcher(page);
        StringBuilder source = new StringBuilder("public class Page {\n");
        int answers = 0;
        while (block.find()) {
            if (block.group(1).startsWith("static ")) {
                source.append(block.group(1));
                continue;
            }
            source.append("public static void run(java.util.List<String> wrong) {\n");
            for (String line : block.group(1).split("\n")) {
                Matcher answered = ANSWERED.matcher(line);
                boolean is = answered.matches();
                answers += is ? 1 : 0;
                source.append(is ? "due(wrong, " + answered.group(1) + ", " + answered.group(2) + ");\n" : line + "\n");
            }
            source.append("}\n");
        }
        source.append("static void due(java.util.List<String> wrong, int got, int due) {\n"
                + "if (got != due) { wrong.add(got + \", the page says \" + due); } } }\n");
        Checks.holds("answers were told", answers > 10);
        run(source.toString());
    }

    private static void run(String source) throws Exception {
        JavaCompiler compiler = ToolProvider.getSystemJavaCompiler();
        Path folder = Files.createTempDirectory("page");
        Path file = folder.resolve("Page.java");
        try {
            Files.writeString(file, source);
            String classes = System.getProperty("java.class.path");
            int failed = compiler.run(null, null, null, "-cp", classes, "-d", folder.toString(), file.toString());
            Checks.is("the page's lines are compiled", failed, 0);
            try (URLClassLoader loader = new URLClassLoader(new URL[] {folder.toUri().toURL()})) {
                List<String> wrong = new ArrayList<>();
                loader.loadClass("Page").getMethod("run", List.class).invoke(null, wrong);
                Checks.holds("answers as the page says: " + wrong, wrong.isEmpty());
            }
        } finally {
            for (File made : folder.toFile().listFiles()) {
                Files.delete(made.toPath());
            }
            Files.delete(folder);
        }
    }
}
