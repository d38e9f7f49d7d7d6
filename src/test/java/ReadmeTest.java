import java.io.IOException;
import java.lang.reflect.InvocationTargetException;
import java.lang.reflect.Method;
import java.lang.reflect.Modifier;
import java.nio.file.Files;
import java.nio.file.Path;
import java.util.ArrayList;
import java.util.List;
import java.util.TreeSet;
import java.util.regex.Matcher;
import java.util.regex.Pattern;
import java.util.stream.Stream;

/**
 * README.md says what is so: each call that it shows is made, on the class and on the Reference, and answers what stands
 * behind it; it names each call of the face with its exceptions, each test, and the command that runs them.
 */
public final class ReadmeTest {
    private static final Due DUE = new Due();
    private static final Pattern SHOWN = Pattern.compile("raster\\.(\\w+)\\(([^)]*)\\);(?:\\s*// (\\w+|-\\d+)\\b.*)?");
    private static final Pattern CALL_ROW = Pattern.compile("\\| `(\\w+)\\(([^)]*)\\)` \\|[^|]*\\|([^|]*)\\|");
    private static final Pattern TEST_ROW = Pattern.compile("\\| (\\w+Test) \\|.*");
    private static final Pattern EXCEPTION = Pattern.compile("`(\\w+Exception)`");

    public static void main(String[] args) throws IOException {
        List<String> lines = Files.readAllLines(Path.of("README.md"));
        showsAnswers(lines);
        namesCalls(lines);
        namesTests(lines);
        namesCommand(lines);
        DUE.end("ReadmeTest");
    }

    private static void showsAnswers(List<String> lines) {
        DUE.about("what README.md shows");
        int from = lines.indexOf("```java");
        int to = from + lines.subList(from, lines.size()).indexOf("```");
        DUE.due("the first line makes an object",
                lines.get(from + 1).equals("CurveRaster raster = new CurveRaster();"), true);
        CurveRaster raster = new CurveRaster();
        Reference reference = new Reference();
        TreeSet<String> used = new TreeSet<>();
        for (String line : lines.subList(from + 2, to)) {
            Matcher shown = SHOWN.matcher(line);
            if (shown.matches()) {
                used.add(shown.group(1));
                String want = shown.group(3) == null ? "null" : shown.group(3);
                same(line, answer(raster, shown.group(1), shown.group(2)), want);
                same(line + " (the Reference)", answer(reference, shown.group(1), shown.group(2)), want);
            } else {
                DUE.due("a line that is no call, and not empty: " + line, line.isEmpty(), true);
            }
        }
        DUE.due("different calls shown", used.size(), 13);
    }

    private static void same(String text, String got, String want) {
        DUE.due(text + " gives " + got + " for " + want + "; alike", got.equals(want), true);
    }

    /** What a call answers, or the name of what it throws. */
    private static String answer(Object made, String name, String arguments) {
        for (Method method : made.getClass().getDeclaredMethods()) {
            if (method.getName().equals(name)) {
                method.setAccessible(true);
                try {
                    return String.valueOf(method.invoke(made, valuesOf(arguments)));
                } catch (InvocationTargetException e) {
                    return e.getCause().getClass().getSimpleName();
                } catch (IllegalAccessException e) {
                    return e.toString();
                }
            }
        }
        return "no such call";
    }

    private static Object[] valuesOf(String arguments) {
        List<Object> values = new ArrayList<>();
        for (String argument : arguments.isEmpty() ? new String[0] : arguments.split(", ")) {
            boolean isTruth = argument.equals("true") || argument.equals("false");
            values.add(isTruth ? (Object) Boolean.valueOf(argument) : Integer.valueOf(argument));
        }
        return values.toArray();
    }

    private static void namesCalls(List<String> lines) {
        DUE.about("the calls that README.md names");
        TreeSet<String> named = new TreeSet<>();
        for (String line : lines) {
            Matcher row = CALL_ROW.matcher(line);
            if (row.matches()) {
                int arguments = row.group(2).isEmpty() ? 0 : row.group(2).split(", ").length;
                StringBuilder call = new StringBuilder(row.group(1) + " of " + arguments);
                EXCEPTION.matcher(row.group(3)).results().forEach(found -> call.append(" " + found.group(1)));
                named.add(call.toString());
            }
        }
        TreeSet<String> face = new TreeSet<>();
        for (Method method : CurveRaster.class.getDeclaredMethods()) {
            if (Modifier.isPublic(method.getModifiers())) {
                StringBuilder call = new StringBuilder(method.getName() + " of " + method.getParameterCount());
                Stream.of(method.getExceptionTypes()).forEach(thrown -> call.append(" " + thrown.getSimpleName()));
                face.add(call.toString());
            }
        }
        alike(named, face);
    }

    private static void alike(TreeSet<String> named, TreeSet<String> there) {
        for (String name : there) {
            DUE.due(name + " is named", named.contains(name), true);
        }
        for (String name : named) {
            DUE.due(name + " is there", there.contains(name), true);
        }
    }

    private static void namesTests(List<String> lines) throws IOException {
        DUE.about("the tests that README.md names");
        TreeSet<String> named = new TreeSet<>();
        for (String line : lines) {
            Matcher row = TEST_ROW.matcher(line);
            if (row.matches()) {
                named.add(row.group(1) + ".java");
            }
        }
        TreeSet<String> there = new TreeSet<>();
        try (Stream<Path> files = Files.list(Path.of("src/test/java"))) {
            files.map(file -> file.getFileName().toString()).filter(name -> name.endsWith("Test.java")).forEach(there::add);
        }
        alike(named, there);
    }

    private static void namesCommand(List<String> lines) {
        DUE.about("the command that README.md names");
        DUE.due("a line with .ci/run alone", lines.contains("    .ci/run"), true);
        DUE.due(".ci/run can be run", Files.isExecutable(Path.of(".ci/run")), true);
        DUE.due("the class is where it says", Files.isReadable(Path.of("src/main/java/CurveRaster.java")), true);
    }
}
