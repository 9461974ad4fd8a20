import java.io.IOException;
import java.net.URL;
import java.net.URLClassLoader;
import java.nio.charset.StandardCharsets;
import java.nio.file.Files;
import java.nio.file.Path;
import java.util.ArrayList;
import java.util.List;
import java.util.TreeSet;
import java.util.regex.Matcher;
import java.util.regex.Pattern;
import java.util.stream.Stream;
import javax.tools.ToolProvider;

/**
 * What README.md shows is so when it is run: its blocks of Java are one program, block behind block, and a comment that
 * begins with an answer is what the call ahead of it must give. It also names every file of the tests, and no other.
 */
public final class ReadmeTest {
    private static final Pattern BLOCK = Pattern.compile("(?s)```java\n(.*?)```");
    private static final Pattern ANSWERED = Pattern.compile("^(?:(\\w+) (\\w+) = )?(.+?);\\s+// (NONE|true|false|-?\\d+)(?:: .*)?$");
    private static final Pattern NAMED = Pattern.compile("`([A-Z]\\w+)`");

    private static final List<String> seen = new ArrayList<>();
    private static int wrong = 0;

    private ReadmeTest() {
    }

    public static void main(String[] args) throws Exception {
        String readme = Files.readString(Path.of("README.md"), StandardCharsets.UTF_8);
        run(programOf(readme));
        calls(readme);
        files(readme);
        System.out.println(wrong == 0 ? seen.size() + " lines of README.md are so" : wrong + " things of README.md are not so");
        if (wrong != 0) {
            System.exit(1);
        }
    }

    /** Called by the program that is made of the page. */
    public static void line(String line, Object got, Object want) {
        seen.add(line);
        boolean alike = got instanceof Number g && want instanceof Number w ? g.longValue() == w.longValue() : got.equals(want);
        say(alike, line + " answered " + got);
    }

    private static void say(boolean isSo, String what) {
        if (!isSo) {
            wrong++;
            System.out.println(what);
        }
    }

    private static String programOf(String readme) {
        StringBuilder helpers = new StringBuilder();
        StringBuilder body = new StringBuilder();
        Matcher block = BLOCK.matcher(readme);
        while (block.find()) {
            if (block.group(1).startsWith("static ")) {
                helpers.append(block.group(1));
            } else {
                for (String line : block.group(1).split("\n")) {
                    body.append(asked(line)).append('\n');
                }
            }
        }
        return "public final class ReadmeRun {\nprivate static final int NONE = LampYear.NONE;\n" + helpers
                + "public static void run() {\n" + body + "}\n}\n";
    }

    private static String asked(String line) {
        Matcher m = ANSWERED.matcher(line);
        if (!m.matches()) {
            say(!line.contains("// "), "no answer can be read from: " + line);
            return line;
        }
        String quoted = '"' + line.replaceAll("\\s+// ", " // ").replace("\\", "\\\\").replace("\"", "\\\"") + '"';
        String check = "ReadmeTest.line(" + quoted + ", " + (m.group(2) == null ? m.group(3) : m.group(2)) + ", " + m.group(4) + ");";
        return m.group(2) == null ? check : m.group(1) + " " + m.group(2) + " = " + m.group(3) + "; " + check;
    }

    private static void run(String program) throws Exception {
        Path dir = Files.createTempDirectory("readme");
        Path source = dir.resolve("ReadmeRun.java");
        Files.writeString(source, program);
        int compiled = ToolProvider.getSystemJavaCompiler().run(null, null, null,
                "-cp", System.getProperty("java.class.path"), "-d", dir.toString(), source.toString());
        say(compiled == 0, "README.md does not compile:\n" + program);
        if (compiled == 0) {
            try (URLClassLoader loader = new URLClassLoader(new URL[] {dir.toUri().toURL()})) {
                loader.loadClass("ReadmeRun").getMethod("run").invoke(null);
            }
            say(!seen.isEmpty(), "README.md has no line that can be run");
        }
        try (Stream<Path> made = Files.list(dir)) {
            for (Path file : made.toList()) {
                Files.delete(file);
            }
        }
        Files.delete(dir);
    }

    /** The page shows each call of the face, and its one object stays within its calls. */
    private static void calls(String readme) {
        for (var method : LampYear.class.getDeclaredMethods()) {
            boolean ofFace = java.lang.reflect.Modifier.isPublic(method.getModifiers());
            say(!ofFace || readme.contains("year." + method.getName() + "("),
                    "README.md never calls " + method.getName());
        }
        say(seen.size() < 400, "README.md has too many lines for one object");
    }

    private static void files(String readme) throws IOException {
        TreeSet<String> named = new TreeSet<>();
        Matcher m = NAMED.matcher(readme.substring(readme.indexOf("## How to run its tests")));
        while (m.find()) {
            named.add(m.group(1));
        }
        named.remove("NONE");
        TreeSet<String> there = new TreeSet<>();
        try (Stream<Path> files = Files.list(Path.of("src/test/java"))) {
            files.forEach(f -> there.add(f.getFileName().toString().replace(".java", "")));
        }
        say(named.equals(there), "README.md names " + named + "\nbut there are " + there);
    }
}
