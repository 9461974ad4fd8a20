import java.io.IOException;
import java.nio.charset.StandardCharsets;
import java.nio.file.Files;
import java.nio.file.Path;
import java.util.List;
import java.util.regex.Matcher;
import java.util.regex.Pattern;
import java.util.stream.Collectors;
import java.util.stream.Stream;

/**
 * Each sentence of the document from its Terms on is named by a test (Due.says), word by word, and no test
 * names one that is not there: so a document that changes shows which tests must be looked at.
 */
public final class SentencesTest {
    private static final Pattern SAYS = Pattern.compile("Due\\.says\\(((?:\\s*\"(?:[^\"\\\\]|\\\\.)*\"\\s*\\+?)+)\\)");
    private static final Pattern PIECE = Pattern.compile("\"((?:[^\"\\\\]|\\\\.)*)\"");
    /** What is no sentence: the numbers of the parts, and what is said of the order of the interface. */
    private static final List<String> HEADINGS = List.of("==== 2.", "==== 3.", "==== 4.", "==== 5.", "==== 6.", "The constants:");

    private static int wrong = 0;

    private SentencesTest() {
    }

    public static void main(String[] args) throws IOException {
        String document = plain(Files.readString(Path.of("../shared/DOC.md"), StandardCharsets.UTF_8));
        boolean[] named = new boolean[document.length()];
        int sentences = 0;
        for (String source : sources()) {
            Matcher says = SAYS.matcher(source);
            while (says.find()) {
                name(document, named, quoted(says.group(1)));
                sentences++;
            }
        }
        for (String heading : HEADINGS) {
            name(document, named, heading);
        }
        tellUnnamed(document, named);
        System.out.println(wrong == 0 ? "tests name all sentences (" + sentences + " times)" : wrong + " sentences are wrong");
        if (wrong != 0) {
            System.exit(1);
        }
    }

    private static List<String> sources() throws IOException {
        try (Stream<Path> files = Files.list(Path.of("src/test/java"))) {
            List<Path> tests = files.filter(f -> f.toString().endsWith("Test.java")).sorted().collect(Collectors.toList());
            List<String> sources = new java.util.ArrayList<>();
            for (Path test : tests) {
                sources.add(Files.readString(test, StandardCharsets.UTF_8));
            }
            return sources;
        }
    }

    private static String quoted(String literals) {
        StringBuilder s = new StringBuilder();
        Matcher piece = PIECE.matcher(literals);
        while (piece.find()) {
            s.append(piece.group(1));
        }
        return s.toString();
    }

    /** From the Terms to the last promise, and what is said of 512 calls; without headings and the calls' own lines. */
    private static String plain(String document) {
        String calls = document.substring(document.indexOf("An object is used for"), document.indexOf("## The public face"));
        String body = document.substring(document.indexOf("## Terms"), document.indexOf("## Not promised"));
        StringBuilder s = new StringBuilder(calls);
        for (String line : body.split("\n")) {
            boolean isHeading = line.startsWith("## ") || line.startsWith("```") || line.startsWith("Ahead of the calls");
            s.append(' ').append(isHeading ? "" : line.replaceFirst("^`[^`]*\\)`:", ""));
        }
        return s.toString().replaceAll("\\s+", " ").strip();
    }

    private static void name(String document, boolean[] named, String sentence) {
        int at = document.indexOf(sentence);
        if (at < 0) {
            wrong++;
            System.out.println("the document does not say: " + sentence);
        }
        for (int i = Math.max(at, 0); at >= 0 && i < at + sentence.length(); i++) {
            named[i] = true;
        }
    }

    private static void tellUnnamed(String document, boolean[] named) {
        int i = 0;
        while (i < named.length) {
            int end = i;
            while (end < named.length && !named[end]) {
                end++;
            }
            if (!document.substring(i, end).isBlank() && !document.substring(i, end).matches("[ :]+")) {
                wrong++;
                System.out.println("no test names: " + document.substring(i, end));
            }
            i = end + 1;
        }
    }
}
