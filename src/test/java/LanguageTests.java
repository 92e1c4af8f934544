import java.io.IOException;
import java.nio.file.Files;
import java.nio.file.Path;
import java.util.HashSet;
import java.util.Set;
import java.util.regex.Matcher;
import java.util.regex.Pattern;

/** Rules of LANGUAGE.md that can be seen by looking over the file's lines. */
public final class LanguageTests {
    private static final Pattern METHOD = Pattern.compile(
            "^ {4,8}((?:public |private |static )*)(int|long|boolean|void|Rule) (\\w+)\\(([^)]*)\\) \\{$", Pattern.MULTILINE);

    private LanguageTests() {
    }

    public static void main(String[] args) throws IOException {
        String source = Files.readString(Path.of("src/main/java/HillBends.java"));
        String code = source.replaceAll("(?s)/\\*.*?\\*/", "").replaceAll("//[^\n]*", "");
        String bare = code.replaceAll("\"[^\"]*\"", "\"\"").replaceAll("'.'", "' '");
        String[] forbidden = {"throw", "throws", "try", "catch", "synchronized", "assert", "import", "package", "equals",
            "hashCode", "toString", "Object", "double", "float", "protected", "transient", "volatile", "Random", "Thread"};
        for (String word : forbidden) {
            Checks.holds("no " + word, !Pattern.compile("\\b" + word + "\\b").matcher(bare).find());
        }
        Checks.holds("no lambda", !bare.contains("->"));
        Checks.holds("no method reference", !bare.contains("::"));
        Checks.holds("no Exact", !bare.contains("Exact"));
        Checks.holds("no while true", !bare.matches("(?s).*(while \\(true\\)|for \\(;;\\)).*"));
        Checks.holds("no joining of texts by +", !bare.matches("(?s).*(\"\"\\s*\\+|\\+\\s*\"\").*"));
        Checks.holds("signs of texts are 1 to 127", source.chars().allMatch(sign -> sign > 0 && sign < 128));
        classes(bare);
        statics(bare);
        methods(code);
        Checks.close("LanguageTests");
    }

    private static void classes(String bare) {
        Matcher classes = Pattern.compile("^( *)(.*)\\bclass (\\w+)", Pattern.MULTILINE).matcher(bare);
        int count = 0;
        while (classes.find()) {
            boolean outer = classes.group(3).equals("HillBends");
            Checks.holds("class " + classes.group(3), classes.group(2).equals(outer ? "public final " : "private static final "));
            count++;
        }
        Checks.holds("some twelve classes", count <= 12);
    }

    private static void statics(String bare) {
        Matcher statics = Pattern.compile("^ *((?:public |private )?static [^(\n]*=)", Pattern.MULTILINE).matcher(bare);
        while (statics.find()) {
            Checks.holds(statics.group(1), statics.group(1).matches(".*static final (int|String) [A-Z0-9_]+ ="));
        }
    }

    private static void methods(String code) {
        Set<String> face = new HashSet<>();
        for (java.lang.reflect.Method method : HillBends.class.getDeclaredMethods()) {
            if (java.lang.reflect.Modifier.isPublic(method.getModifiers())) {
                face.add(method.getName());
            } else {
                Checks.holds(method + " is private", java.lang.reflect.Modifier.isPrivate(method.getModifiers()));
            }
        }
        Checks.is("methods of the face", face.size(), 36);
        Matcher methods = METHOD.matcher(code);
        int seen = 0;
        while (methods.find()) {
            String name = methods.group(3);
            boolean isPublic = methods.group(1).contains("public");
            Checks.holds(name + " is of the face or bears no name of it", isPublic == face.contains(name));
            Checks.holds(name + " takes seven at most", methods.group(4).split(",").length <= 7);
            String indent = methods.group().replaceAll("\\S.*", "");
            int to = code.indexOf("\n" + indent + "}", methods.start());
            Checks.holds(name + " is short", code.substring(methods.start(), to).lines().count() <= 60);
            seen++;
        }
        Checks.holds("methods were seen", seen > 100);
    }
}
