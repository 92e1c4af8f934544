import java.io.IOException;
import java.nio.file.Files;
import java.nio.file.Path;
import java.util.ArrayList;
import java.util.List;
import java.util.regex.Matcher;
import java.util.regex.Pattern;
import java.util.stream.Collectors;
import java.util.stream.Stream;

/**
 * No sentence of the document is left out: each of its words stands in a quote of some test. That a quote is there as it
 * is quoted, and has checks behind it, is seen when that test runs. The face and the heads of promises are FaceTests'.
 */
public final class SentenceTests {
    private static final Path TESTS = Path.of("src/test/java");
    private static final String TEXT = "\"(?:[^\"\\\\]|\\\\.)*\"";
    private static final Pattern QUOTE = Pattern.compile(
            "Bounds\\.(?:term|promise\\((\\d+),|said\\((\\w+|" + TEXT + "),)\\(?\\s*((?:" + TEXT + "[\\s+]*)+)\\)");
    private static final Pattern PIECE = Pattern.compile(TEXT);
    private static final Pattern METHOD = Pattern.compile("private static [\\w<>\\[\\], ]+ (\\w+)\\(");
    private static final Pattern NAMED_HEADING = Pattern.compile("String (\\w+) = \"([^\"]*)\";");

    /** What is no sentence: headings, fences, the face, heads of promises, marks of parts. */
    private static final Pattern FRAME = Pattern.compile("(?m)(?s:^```java.*?^```$)|^#.*$|^```.*$|^`(?:int )?\\w+\\([^)]*\\)`:|==== I+\\.");

    private SentenceTests() {
    }

    public static void main(String[] args) throws IOException {
        if (Bounds.hasDocument()) {
            String document = Bounds.document();
            boolean[] held = new boolean[document.length()];
            Matcher frame = FRAME.matcher(document);
            while (frame.find()) {
                java.util.Arrays.fill(held, frame.start(), frame.end(), true);
            }
            int quotes = 0;
            for (Path file : sources()) {
                quotes += holdQuotes(document, held, file);
            }
            Checks.holds("quotes were found", quotes > 150);
            for (String rest : notHeld(document, held)) {
                Checks.holds("no test quotes: " + rest, false);
            }
        }
        for (Path file : sources()) {
            everyMethodIsCalled(file);
        }
        Bounds.close("SentenceTests");
    }

    private static List<Path> sources() throws IOException {
        try (Stream<Path> files = Files.list(TESTS)) {
            return files.filter(file -> file.toString().endsWith("Tests.java")).sorted().collect(Collectors.toList());
        }
    }

    private static int holdQuotes(String document, boolean[] held, Path file) throws IOException {
        String source = Files.readString(file);
        Matcher quote = QUOTE.matcher(source);
        int quotes = 0;
        while (quote.find()) {
            String heading = quote.group(1) != null ? "Promise " + quote.group(1) + ":"
                    : quote.group(2) != null ? headingOf(source, quote.group(2)) : "Terms";
            String text = joined(quote.group(3));
            int from = document.indexOf(Bounds.section(heading));
            int at = document.indexOf(text, from);
            Checks.holds(file + " quotes what stands under " + heading + " " + text, at >= from && from > 0);
            if (at >= 0) {
                java.util.Arrays.fill(held, at, at + text.length(), true);
            }
            quotes++;
        }
        return quotes;
    }

    private static String headingOf(String source, String told) {
        if (told.startsWith("\"")) {
            return joined(told);
        }
        Matcher named = NAMED_HEADING.matcher(source);
        while (named.find()) {
            if (named.group(1).equals(told)) {
                return named.group(2);
            }
        }
        return told;
    }

    private static String joined(String pieces) {
        StringBuilder text = new StringBuilder();
        Matcher piece = PIECE.matcher(pieces);
        while (piece.find()) {
            text.append(piece.group(), 1, piece.group().length() - 1);
        }
        return text.toString();
    }

    private static List<String> notHeld(String document, boolean[] held) {
        List<String> rests = new ArrayList<>();
        int from = 0;
        while (from < held.length) {
            int to = from;
            while (to < held.length && held[to] == held[from]) {
                to++;
            }
            String rest = document.substring(from, to);
            if (!held[from] && rest.matches("(?s).*[A-Za-z0-9].*")) {
                rests.add(rest.strip());
            }
            from = to;
        }
        return rests;
    }

    /** A quote in a method that nobody calls would hold nothing. */
    private static void everyMethodIsCalled(Path file) throws IOException {
        String source = Files.readString(file);
        Matcher method = METHOD.matcher(source);
        while (method.find()) {
            String name = method.group(1);
            Matcher use = Pattern.compile("\\b" + name + "(?=\\()|::" + name + "\\b").matcher(source);
            int uses = 0;
            while (use.find()) {
                uses++;
            }
            Matcher told = Pattern.compile("private static [\\w<>\\[\\], ]+ " + name + "\\(").matcher(source);
            int tellings = 0;
            while (told.find()) {
                tellings++;
            }
            Checks.holds(file + ": " + name + " is called", uses > tellings);
        }
    }
}
