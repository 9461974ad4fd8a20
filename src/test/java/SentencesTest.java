import java.io.IOException;
import java.nio.charset.StandardCharsets;
import java.nio.file.Files;
import java.nio.file.Path;
import java.util.List;
import java.util.regex.Matcher;
import java.util.regex.Pattern;
import java.util.stream.Collectors;
import java.util.stream.Stream;

/**
 * Each sentence of the document is named by a test (Due.says), word by word, or stands here as one that asks for nothing,
 * and no test names one that is not there: so a document that changes shows which tests must be looked at.
 */
public final class SentencesTest {
    private static final Pattern SAYS = Pattern.compile("Due\\.says\\(((?:\\s*\"(?:[^\"\\\\]|\\\\.)*\"\\s*\\+?)+)\\)");
    private static final Pattern PIECE = Pattern.compile("\"((?:[^\"\\\\]|\\\\.)*)\"");
    /** What is no sentence: the numbers of the parts, and what is said of the order of the interface. */
    private static final List<String> HEADINGS = List.of("==== 2.", "==== 3.", "==== 4.", "==== 5.", "==== 6.", "The constants:");

    /** What is told once more below, or says what is free. */
    private static final List<String> ASKS_FOR_NOTHING = List.of(
            "# LampYear",
            "A headquarters of a year in which a land learns to read: places joined by ways that rains shut, teachers posted to "
            + "lamps, learners who come, go away and come again, all as known by a week; orders as texts by weeks and shires that "
            + "say who may be taught, how many at a lamp, for how many hours, what a proof is and when a flag is raised; lessons "
            + "that lean on others, learnt by hours and forgotten in gaps; proofs by words written, slip by slip, and by which "
            + "lesson each is owed; teachers sent so that the last one comes soonest; counts told up beside drawn ones; what will "
            + "be read in spring. ==== 1.",
            "How the state is held inside the object is free, as are the speed of each call, the text of toString and the "
            + "behaviour of equals and hashCode.",
            "Use of one object from several threads at once is not promised to be safe.",
            "Nothing is promised beyond the answers and state changes described above, and nothing about an object after its "
            + "512th call.");

    private static int wrong = 0;

    private SentencesTest() {
    }

    public static void main(String[] args) throws IOException {
        String document = plain(Files.readString(Path.of("../shared/DOC.md"), StandardCharsets.UTF_8));
        boolean[] named = new boolean[document.length()];
        int sentences = 0;
        for (String source : sources()) {
            Matcher says = SAYS.matcher(source);
            while (says.find()) {
                name(document, named, quoted(says.group(1)));
                sentences++;
            }
        }
        for (String heading : HEADINGS) {
            name(document, named, heading);
        }
        for (String free : ASKS_FOR_NOTHING) {
            name(document, named, free);
        }
        tellUnnamed(document, named);
        System.out.println(wrong == 0 ? "tests name all sentences (" + sentences + " times)" : wrong + " sentences are wrong");
        if (wrong != 0) {
            System.exit(1);
        }
    }

    private static List<String> sources() throws IOException {
        try (Stream<Path> files = Files.list(Path.of("src/test/java"))) {
            List<Path> tests = files.filter(f -> f.toString().endsWith("Test.java")).sorted().collect(Collectors.toList());
            List<String> sources = new java.util.ArrayList<>();
            for (Path test : tests) {
                sources.add(Files.readString(test, StandardCharsets.UTF_8));
            }
            return sources;
        }
    }

    private static String quoted(String literals) {
        StringBuilder s = new StringBuilder();
        Matcher piece = PIECE.matcher(literals);
        while (piece.find()) {
            s.append(piece.group(1));
        }
        return s.toString();
    }

    /** Without headings, the calls' own lines, and the face, which LanguageTest compares. */
    private static String plain(String document) {
        String face = document.substring(document.indexOf("## The public face"), document.indexOf("## Terms"));
        StringBuilder s = new StringBuilder();
        for (String line : document.replace(face, "").split("\n")) {
            boolean isHeading = line.startsWith("## ") || line.startsWith("```") || line.startsWith("Ahead of the calls");
            s.append(' ').append(isHeading ? "" : line.replaceFirst("^`[^`]*\\)`:", ""));
        }
        return s.toString().replaceAll("\\s+", " ").strip();
    }

    private static void name(String document, boolean[] named, String sentence) {
        int at = document.indexOf(sentence);
        if (at < 0) {
            wrong++;
            System.out.println("the document does not say: " + sentence);
        }
        for (int i = Math.max(at, 0); at >= 0 && i < at + sentence.length(); i++) {
            named[i] = true;
        }
    }

    private static void tellUnnamed(String document, boolean[] named) {
        int i = 0;
        while (i < named.length) {
            int end = i;
            while (end < named.length && !named[end]) {
                end++;
            }
            if (!document.substring(i, end).isBlank() && !document.substring(i, end).matches("[ :]+")) {
                wrong++;
                System.out.println("no test names: " + document.substring(i, end));
            }
            i = end + 1;
        }
    }
}
