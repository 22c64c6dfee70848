import java.io.IOException;
import java.lang.reflect.Constructor;
import java.lang.reflect.InvocationTargetException;
import java.lang.reflect.Method;
import java.nio.file.DirectoryStream;
import java.nio.file.Files;
import java.nio.file.Path;
import java.util.ArrayList;
import java.util.Arrays;
import java.util.HashMap;
import java.util.List;
import java.util.Map;
import java.util.TreeSet;
import java.util.regex.Matcher;
import java.util.regex.Pattern;

/** README.md: its example answers as it says, and it tells each call of the face and each test. */
public final class ReadmeTest {
    /** A line of the example: perhaps a name for the answer, the call, and what is due. */
    private static final Pattern LINE = Pattern.compile("(?:(int|boolean) (\\w+) = )?"
            + "plot\\.(\\w+)\\(([^)]*)\\); +// (throws \\w+|\\S+?)(?::? .*)?");
    private static final Pattern SIGNATURE =
            Pattern.compile("(?m)^    public (int|boolean) (\\w+)\\(([^)]*)\\)");

    private final PlotPatch plot = new PlotPatch();
    private final Map<String, Integer> names = new HashMap<>();
    private final TreeSet<String> used = new TreeSet<>();

    public static void main(String[] args) throws IOException {
        String readme = Files.readString(Path.of("README.md"));
        new ReadmeTest().example(readme);
        tellsEachCall(readme, Files.readString(Path.of("src/main/java/PlotPatch.java")));
        tellsTheConstructor(readme);
        tellsEachTest(readme);
        Check.finish("ReadmeTest");
    }

    private void example(String readme) {
        Matcher block = Pattern.compile("(?s)```java\\n(.*?)```").matcher(readme);
        Check.due(true, "README has an example", block::find);
        List<String> lines = new ArrayList<>(block.group(1).lines()
                .filter(line -> !line.isBlank() && !line.startsWith("//")).toList());
        Check.due("PlotPatch plot = new PlotPatch();", "the example's first line", () -> lines.remove(0));
        for (String line : lines) {
            Matcher parts = LINE.matcher(line);
            Check.due(true, "README can be read: " + line, parts::matches);
            if (parts.matches()) {
                call(line, parts);
            }
        }
        TreeSet<String> all = new TreeSet<>();
        for (Method method : calls()) {
            all.add(method.getName());
        }
        Check.due(all, "the calls of the example", () -> used);
    }

    private void call(String line, Matcher parts) {
        used.add(parts.group(3));
        Object answer = Check.answer(() -> answered(parts.group(3), parts.group(4)));
        Check.due(due(parts.group(5)), "README: " + line, () -> answer);
        if (parts.group(1) != null) {
            Class<?> kind = parts.group(1).equals("int") ? Integer.class : Boolean.class;
            Check.due(kind, "README, the answer's type: " + line, answer::getClass);
            if (answer instanceof Integer) {
                names.put(parts.group(2), (Integer) answer);
            }
        }
    }

    private static Object due(String told) {
        if (told.startsWith("throws ")) {
            return "throws java.lang." + told.substring(7);
        }
        if (told.equals("true") || told.equals("false")) {
            return told.equals("true");
        }
        return told.equals("NONE") ? PlotPatch.NONE : Integer.valueOf(told);
    }

    private Object answered(String name, String arguments) {
        Object[] numbers = arguments.isEmpty() ? new Object[0]
                : Arrays.stream(arguments.split(", ")).map(this::number).toArray();
        Method method = calls().stream().filter(each -> each.getName().equals(name)).findFirst().orElseThrow();
        try {
            return method.invoke(plot, numbers);
        } catch (InvocationTargetException e) {
            return "throws " + e.getCause().getClass().getName();
        } catch (IllegalAccessException e) {
            return e.toString();
        }
    }

    private Object number(String argument) {
        if (argument.startsWith("PlotPatch.")) {
            try {
                return PlotPatch.class.getField(argument.substring(10)).getInt(null);
            } catch (ReflectiveOperationException e) {
                return e.toString();
            }
        }
        return names.containsKey(argument) ? names.get(argument) : Integer.valueOf(argument);
    }

    private static List<Method> calls() {
        return Arrays.stream(PlotPatch.class.getMethods())
                .filter(method -> method.getDeclaringClass() == PlotPatch.class).toList();
    }

    /** The program's text is read for the names of the parameters, which reflection does not have. */
    private static void tellsEachCall(String readme, String program) {
        Matcher signatures = SIGNATURE.matcher(program);
        int told = 0;
        while (signatures.find()) {
            told++;
            String head = signatures.group().substring(11);
            String section = section(readme, "#### `" + head + "`\n");
            Check.due(true, "README has a section of " + head, () -> !section.isEmpty());
            for (String parameter : signatures.group(3).split(", ")) {
                String line = "- `" + parameter.substring(parameter.indexOf(' ') + 1) + "`: ";
                Check.due(true, "README, " + head + ": " + line,
                        () -> parameter.isEmpty() || section.contains(line));
            }
            Check.due(true, "README, " + head + ": its answer", () -> section.contains("- Answers "));
            String name = signatures.group(2);
            Method method = calls().stream().filter(each -> each.getName().equals(name)).findFirst().orElseThrow();
            Check.due(exceptions(method), "README, " + head + ": its exceptions", () -> thrown(section));
        }
        Check.due(calls().size(), "how many calls were looked for", Integer.valueOf(told)::intValue);
    }

    private static void tellsTheConstructor(String readme) {
        for (Constructor<?> constructor : PlotPatch.class.getConstructors()) {
            Check.due(0, "the constructor's parameters", constructor::getParameterCount);
            Check.due(true, "README has a section of the constructor",
                    () -> thrown(section(readme, "### `PlotPatch()`\n")).isEmpty());
        }
    }

    private static void tellsEachTest(String readme) throws IOException {
        try (DirectoryStream<Path> tests = Files.newDirectoryStream(Path.of("src/test/java"), "*Test.java")) {
            for (Path test : tests) {
                String name = test.getFileName().toString().replace(".java", "");
                Check.due(true, "README has a row of " + name, () -> readme.contains("\n| `" + name + "` | "));
            }
        }
    }

    /** What stands behind a head, up to the next one. */
    private static String section(String readme, String head) {
        int start = readme.indexOf(head);
        if (start < 0) {
            return "";
        }
        String rest = readme.substring(start + head.length());
        int end = rest.indexOf("\n#");
        return end < 0 ? rest : rest.substring(0, end);
    }

    private static List<String> exceptions(Method method) {
        return Arrays.stream(method.getExceptionTypes()).map(Class::getSimpleName).toList();
    }

    /** The exceptions that a section tells, in its order; a section that tells nothing of them is wrong. */
    private static List<String> thrown(String section) {
        int start = section.indexOf("Throws ");
        if (start < 0) {
            return List.of("nothing told");
        }
        List<String> all = new ArrayList<>();
        Matcher names = Pattern.compile("`(\\w+Exception)`").matcher(section.substring(start));
        while (names.find()) {
            all.add(names.group(1));
        }
        boolean saysNothing = section.startsWith("Throws nothing.", start);
        return saysNothing == all.isEmpty() ? all : List.of("both told");
    }
}
