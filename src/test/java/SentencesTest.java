import java.io.IOException;
import java.nio.file.Files;
import java.nio.file.Path;
import java.util.Arrays;
import java.util.LinkedHashMap;
import java.util.List;
import java.util.Map;
import java.util.regex.Matcher;
import java.util.regex.Pattern;
import java.util.stream.Collectors;
import java.util.stream.Stream;

/**
 * All words of the document's terms and promises stand in some test's says(..), and what stands
 * there are words of the document: a sentence without a test is told here.
 */
public final class SentencesTest {
    private static final Path DOCUMENT = Path.of("../shared/DOC.md");
    private static final Path TESTS = Path.of("src/test/java");
    private static final Pattern HEADING = Pattern.compile("(?m)^## (.*)$");
    private static final Pattern PART = Pattern.compile("new Check\\(\"([^\"]*)\"\\)");
    private static final Pattern SAYS = Pattern.compile("says\\(((?:\\s*\\+?\\s*\"[^\"]*\")+)\\)");
    private static final char TESTED = '_';

    private static boolean failed = false;

    /** A part of the document, and a copy where the words that have a test are struck out. */
    private static final class Part {
        final String words;
        final char[] left;

        Part(String words) {
            this.words = words;
            left = words.toCharArray();
        }

        boolean strikeOut(String quote) {
            int at = words.indexOf(quote);
            boolean found = at >= 0;
            while (at >= 0) {
                Arrays.fill(left, at, at + quote.length(), TESTED);
                at = words.indexOf(quote, at + 1);
            }
            return found;
        }
    }

    public static void main(String[] args) throws IOException {
        if (!Files.exists(DOCUMENT)) {
            System.out.println("the document is not here: there is nothing to hold the tests against");
            return;
        }
        Map<String, Part> parts = parts(Files.readString(DOCUMENT));
        for (Path test : tests()) {
            strikeOutAll(test, Files.readString(test), parts);
        }
        parts.forEach(SentencesTest::dueNothingLeft);
        System.out.println(failed ? "not all sentences are tested" : "all sentences are tested");
        if (failed) {
            System.exit(1);
        }
    }

    private static void fail(String why) {
        failed = true;
        System.out.println(why);
    }

    private static Map<String, Part> parts(String document) {
        Map<String, Part> parts = new LinkedHashMap<>();
        Matcher heading = HEADING.matcher(document);
        String last = "";
        int from = 0;
        while (heading.find()) {
            add(parts, last, document.substring(from, heading.start()));
            last = heading.group(1);
            from = heading.end();
        }
        add(parts, last, document.substring(from));
        return parts;
    }

    private static void add(Map<String, Part> parts, String heading, String text) {
        if (heading.equals("Terms") || heading.startsWith("Promise ")) {
            // The face, in backticks before each promise, is FaceTest's.
            String words = text.replaceAll("(?m)^```.*$", "").replaceAll("`[^`]*`:", "");
            parts.put(heading, new Part(words.replaceAll("\\s+", " ")));
        }
    }

    private static List<Path> tests() throws IOException {
        try (Stream<Path> files = Files.list(TESTS)) {
            return files.filter(f -> f.toString().endsWith("Test.java")).sorted().collect(Collectors.toList());
        }
    }

    private static void strikeOutAll(Path test, String source, Map<String, Part> parts) {
        Matcher heading = PART.matcher(source);
        if (!heading.find()) {
            return;
        }
        Part part = parts.get(heading.group(1));
        if (part == null) {
            fail(test + ": the document has no part " + heading.group(1));
            return;
        }
        Matcher says = SAYS.matcher(source);
        while (says.find()) {
            String quote = unquote(says.group(1));
            if (!part.strikeOut(quote)) {
                fail(test + ": the document does not say \"" + quote + "\"");
            }
        }
    }

    /** The text of one or more literals that + joins. */
    private static String unquote(String literals) {
        return literals.replaceAll("\"\\s*\\+\\s*\"", "").trim().replaceAll("^\"|\"$", "");
    }

    private static void dueNothingLeft(String heading, Part part) {
        for (String left : new String(part.left).split(TESTED + "+")) {
            if (left.matches(".*[A-Za-z0-9].*")) {
                fail(heading + ": no test for \"" + left.trim() + "\"");
            }
        }
    }
}
