import java.io.IOException;
import java.nio.file.Files;
import java.nio.file.Path;
import java.util.List;
import java.util.TreeSet;
import java.util.regex.Matcher;
import java.util.regex.Pattern;

/** The rules of LANGUAGE.md that the text of the program alone can show. */
public final class LanguageTest {
    private static final int MAX_METHOD_LINES = 60;
    private static final int MAX_CLASSES = 12;
    private static final int MAX_FIELDS = 20;

    /** A rule's number and a pattern that no program that keeps to it contains. */
    private static final String[][] FORBIDDEN = {
        {"1", "\\bpackage\\b"},
        {"2", "(?m)^(?!\\s*(case|default)\\b).*->"},
        {"2", "::"},
        {"4", "\\w+Exact\\b"},
        {"4", "\\bSystem\\.(?!arraycopy\\b)"},
        {"4", "\\bimport\\b(?! java\\.util\\.(Arrays|ArrayList|List|Iterator|NoSuchElementException|\\*);)"},
        {"5", "\\bstatic (?!final )[^(\\n]*;"},
        {"5", "\\bstatic \\{"},
        {"6", "\\b(finally|synchronized|assert|getMessage|hashCode)\\b"},
        {"6", "\\b(boolean equals|String toString)\\("},
        {"6", "\\bthrow (?!new (IllegalState|IllegalArgument|IndexOutOfBounds|Arithmetic|UnsupportedOperation"
                + "|NoSuchElement|Runtime)Exception\\((\"[^\"]*\")?\\);)"},
        {"7", "\\bcatch \\((ArrayIndexOutOfBounds|NullPointer|ClassCast|NegativeArraySize|ArrayStore)"},
        {"10", "\"\\s*\\+|\\+\\s*\""},
    };

    public static void main(String[] args) throws IOException {
        String source = Files.readString(Path.of("src/main/java/PlotPatch.java"));
        Check.due(true, "3: signs of the program are plain", () -> source.chars().allMatch(c -> c < 127));
        String code = source.replaceAll("(?s)/\\*.*?\\*/", "").replaceAll("//[^\\n]*", "");
        for (String[] rule : FORBIDDEN) {
            Check.due(List.of(), "rule " + rule[0] + ": " + rule[1], () -> found(code, rule[1]));
        }
        Check.due(true, "11: how many classes", () -> found(code, "\\bclass \\w+").size() <= MAX_CLASSES);
        Check.due(1, "1: what is public", () -> found(code, "(?m)^public ").size());
        Check.due(List.of(), "1: members that are neither public nor private",
                () -> found(code, "(?m)^    (?!public |private |    |}|throws)\\S.*"));
        Check.due(List.of(), "11: long methods", () -> longMethods(code));
        Check.due(List.of(), "11: many fields",
                () -> manyFields(code));
        Check.finish("LanguageTest");
    }

    private static List<String> found(String code, String pattern) {
        Matcher matcher = Pattern.compile(pattern).matcher(code);
        TreeSet<String> all = new TreeSet<>();
        while (matcher.find()) {
            all.add(matcher.start() + ": " + matcher.group());
        }
        return List.copyOf(all);
    }

    /** A method is what stands between a line that opens it and the same indent's brace. */
    private static List<String> longMethods(String code) {
        TreeSet<String> all = new TreeSet<>();
        Matcher matcher = Pattern.compile("(?ms)^( {4}| {8})(?:public|private) (?![^\\n]*\\bclass\\b)"
                + "[^;{]*\\{\\n.*?^\\1\\}").matcher(code);
        while (matcher.find()) {
            if (matcher.group().lines().count() > MAX_METHOD_LINES) {
                all.add(matcher.group().lines().findFirst().orElse(""));
            }
        }
        return List.copyOf(all);
    }

    private static List<String> manyFields(String code) {
        TreeSet<String> all = new TreeSet<>();
        for (String part : code.split("\\bclass ")) {
            long fields = part.lines()
                    .filter(line -> line.matches("\\s+private (?!static)[^(]*;")).count();
            if (fields > MAX_FIELDS) {
                all.add(part.lines().findFirst().orElse(""));
            }
        }
        return List.copyOf(all);
    }
}
