import java.io.IOException;
import java.lang.reflect.Constructor;
import java.lang.reflect.Field;
import java.lang.reflect.Method;
import java.lang.reflect.Modifier;
import java.nio.charset.StandardCharsets;
import java.nio.file.Files;
import java.nio.file.Path;
import java.util.ArrayList;
import java.util.HashSet;
import java.util.List;
import java.util.Set;
import java.util.TreeSet;
import java.util.regex.Matcher;
import java.util.regex.Pattern;

/** The face as the document has it, and the rules of LANGUAGE.md that can be seen in the source or in the compiled class. */
public final class LanguageTest {
    private static int wrong = 0;

    private LanguageTest() {
    }

    public static void main(String[] args) throws Exception {
        String source = Files.readString(Path.of("src/main/java/LampYear.java"), StandardCharsets.ISO_8859_1);
        List<String> told = toldFace();
        face(told);
        asWritten(source, told);
        insides();
        words(source);
        nothingMade(source);
        lengths(source);
        System.out.println(wrong == 0 ? "the rules that can be seen are kept" : wrong + " rules are broken");
        if (wrong != 0) {
            System.exit(1);
        }
    }

    private static void rule(int number, boolean kept, String what) {
        if (!kept) {
            wrong++;
            System.out.println("rule " + number + ": " + what);
        }
    }

    /** The lines of the face, as the document has them between the class's brackets. */
    private static List<String> toldFace() throws IOException {
        String document = Files.readString(Path.of("../shared/DOC.md"), StandardCharsets.UTF_8);
        Matcher m = Pattern.compile("(?s)public final class LampYear \\{\n(.*?)\n\\}").matcher(document);
        List<String> lines = new ArrayList<>();
        rule(1, m.find(), "the document has no face");
        for (String line : m.group(1).split("\n")) {
            lines.add(line.strip());
        }
        rule(1, lines.size() > 2, "the document's face is empty");
        return lines;
    }

    /** Word by word, the names of the parameters too, and in the same order. */
    private static void asWritten(String source, List<String> told) {
        List<String> written = new ArrayList<>();
        for (String line : source.split("\n")) {
            if (line.startsWith("    public ")) {
                written.add(line.strip().replaceAll(" \\{$", ";"));
            }
        }
        rule(1, written.equals(told), "the face is written " + written);
    }

    private static void face(List<String> told) {
        Class<?> c = LampYear.class;
        rule(1, Modifier.isPublic(c.getModifiers()) && Modifier.isFinal(c.getModifiers()), "public and final");
        Set<String> want = new TreeSet<>();
        Set<String> names = new HashSet<>();
        for (String line : told) {
            if (line.contains("(") && !line.startsWith("public LampYear(")) {
                want.add(line.replaceAll("^public |;| \\w+(?=[,)])", "").replace(" ", ""));
            }
        }
        Set<String> got = new TreeSet<>();
        for (Method m : c.getDeclaredMethods()) {
            if (!Modifier.isPrivate(m.getModifiers())) {
                StringBuilder s = new StringBuilder(m.getReturnType() + m.getName() + "(");
                for (int i = 0; i < m.getParameterCount(); i++) {
                    s.append(i == 0 ? "" : ",").append(m.getParameterTypes()[i]);
                }
                got.add(s.append(")").toString());
                names.add(m.getName());
                rule(1, Modifier.isPublic(m.getModifiers()) && !Modifier.isStatic(m.getModifiers()), "not of the face: " + m);
            }
        }
        rule(1, want.equals(got), "the face is " + got);
        for (Class<?> part : all()) {
            for (Method m : part.getDeclaredMethods()) {
                rule(1, part == c && Modifier.isPublic(m.getModifiers()) || !names.contains(m.getName()), "another " + m.getName());
            }
        }
        for (Field f : c.getDeclaredFields()) {
            rule(1, Modifier.isPrivate(f.getModifiers()) || f.getName().equals("NONE"), "not of the face: " + f);
        }
        Constructor<?>[] made = c.getDeclaredConstructors();
        rule(1, made.length == 1 && made[0].getParameterCount() == 0 && Modifier.isPublic(made[0].getModifiers()), "one constructor");
    }

    private static List<Class<?>> all() {
        List<Class<?>> all = new ArrayList<>(List.of(LampYear.class));
        all.addAll(List.of(LampYear.class.getDeclaredClasses()));
        return all;
    }

    private static void insides() {
        rule(11, all().size() <= 12, "there are " + all().size() + " classes");
        for (Class<?> c : all()) {
            rule(2, c == LampYear.class || Modifier.isStatic(c.getModifiers()), c + " is not static");
            rule(2, c == LampYear.class || c.getDeclaredClasses().length == 0, c + " has classes inside");
            int fields = 0;
            for (Field f : c.getDeclaredFields()) {
                boolean isStatic = Modifier.isStatic(f.getModifiers());
                rule(5, !isStatic || Modifier.isFinal(f.getModifiers()), f + " is not final");
                fields += isStatic ? 0 : 1;
            }
            rule(11, fields <= 20, c + " has " + fields + " fields");
            for (Method m : c.getDeclaredMethods()) {
                rule(11, m.getParameterCount() <= 7, m + " has too many parameters");
            }
        }
    }

    private static String bare(String source) {
        return source.replaceAll("(?s)/\\*.*?\\*/", "").replaceAll("//[^\n]*", "")
                .replaceAll("\"[^\"\n]*\"", "\"\"").replaceAll("'[^']*'", "'x'");
    }

    private static void words(String source) {
        for (char ch : source.toCharArray()) {
            rule(4, ch < 128, "a sign above 127");
        }
        String code = bare(source);
        String[] never = {"throw", "throws", "try", "catch", "finally", "synchronized", "assert", "volatile", "native",
            "transient", "protected", "package", "hashCode", "toString", "NaN", "Random", "Thread", "Object", "String.format",
            "nanoTime", "currentTimeMillis", "getenv", "getProperty", "var"};
        for (String w : never) {
            rule(6, !Pattern.compile("\\b" + Pattern.quote(w) + "\\b").matcher(code).find(), w);
        }
        rule(2, !code.contains("->") && !code.contains("::"), "a lambda or a method reference");
        rule(5, !Pattern.compile("static\\s*\\{").matcher(code).find(), "a static initialiser");
        rule(4, !Pattern.compile("\\w+Exact\\b").matcher(code).find(), "an Exact one");
        Matcher imports = Pattern.compile("import ([^;]+);").matcher(code);
        while (imports.find()) {
            rule(4, imports.group(1).equals("java.util.Arrays"), imports.group());
        }
        Matcher statics = Pattern.compile("\\b(System|Arrays|Math|Integer|Long)\\.(\\w+)").matcher(code);
        Set<String> allowed = Set.of("System.arraycopy", "Arrays.fill", "Math.min", "Math.max", "Integer.bitCount");
        while (statics.find()) {
            rule(4, allowed.contains(statics.group()), statics.group());
        }
        Matcher made = Pattern.compile("new (\\w+)").matcher(code);
        Set<String> own = new HashSet<>(Set.of("int", "long", "byte", "boolean"));
        for (Class<?> c : all()) {
            own.add(c.getSimpleName());
        }
        while (made.find()) {
            rule(3, own.contains(made.group(1)), made.group());
        }
    }

    /** Calls make nothing at all: rows are made with the object and used again. */
    private static void nothingMade(String source) {
        Pattern field = Pattern.compile("^ +private final [\\w\\[\\]]+ \\w+ = new .*;$");
        Pattern ofLampYear = Pattern.compile("^        \\w+ = new \\w+\\([\\w, ]*\\);$");
        for (String line : bare(source).split("\n")) {
            if (line.contains("new ")) {
                boolean atBirth = field.matcher(line).find() || ofLampYear.matcher(line).find()
                        || line.strip().equals("standings[shire] = new Standing();");
                rule(12, atBirth, "made in a call: " + line.strip());
            }
        }
    }

    private static void lengths(String source) {
        String[] lines = source.split("\n");
        Pattern head = Pattern.compile("^( {4}| {8})(?! )[^=;*/]*\\) \\{$");
        for (int i = 0; i < lines.length; i++) {
            rule(11, lines[i].length() <= 120, "line " + (i + 1) + " is long");
            Matcher m = head.matcher(lines[i]);
            if (m.find()) {
                int end = i;
                while (end < lines.length - 1 && !lines[end].equals(m.group(1) + "}")) {
                    end++;
                }
                rule(11, end - i < 60, "a method of " + (end - i + 1) + " lines: " + lines[i].strip());
            }
        }
    }
}
