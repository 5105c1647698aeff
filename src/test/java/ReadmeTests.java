import java.io.IOException;
import java.lang.reflect.InvocationTargetException;
import java.lang.reflect.Method;
import java.lang.reflect.Modifier;
import java.nio.file.DirectoryStream;
import java.nio.file.Files;
import java.nio.file.Path;
import java.util.ArrayList;
import java.util.List;
import java.util.Set;
import java.util.TreeSet;
import java.util.regex.Matcher;
import java.util.regex.Pattern;

/**
 * What README.md shows as a use of the class answers as README.md says. The calls and the answers
 * are read from README.md itself, so neither it nor the program can go its own way.
 */
public final class ReadmeTests {
    private static final Path README = Path.of("README.md");
    private static final Path TESTS = Path.of("src", "test", "java");
    private static final Pattern BLOCK = Pattern.compile("(?ms)^```java\n(.*?)^```$");
    private static final String NEW_DESK = "PumpDesk desk = new PumpDesk();";
    private static final Pattern CALL = Pattern.compile(
            "desk\\.(\\w+)\\(((?:-?\\d+(?:, -?\\d+)*)?)\\); +// (true|false|NONE|-?\\d+)(?:: \\S.*)?");

    private static final String NONE = String.valueOf(PumpDesk.NONE);

    private final Set<String> shown = new TreeSet<>();

    public static void main(String[] args) throws IOException, IllegalAccessException {
        String text = Files.readString(README);
        ReadmeTests test = new ReadmeTests();
        test.examples(text);
        test.noCallIsLeftOut(text);
        howToRunTheTests(text);
        Due.end();
    }

    private void examples(String text) throws IllegalAccessException {
        Matcher block = BLOCK.matcher(text);
        int found = 0;
        while (block.find()) {
            found++;
            example("README, example " + found, block.group(1).split("\n"));
        }
        Due.is("README has examples", found > 0, true);
        Due.is("marks of a block in README", text.split("```", -1).length - 1, found * 2);
    }

    private void example(String where, String[] lines) throws IllegalAccessException {
        Due.is(where + " makes a desk first", lines[0].equals(NEW_DESK), true);
        PumpDesk desk = new PumpDesk();
        for (int k = 1; k < lines.length; k++) {
            Matcher call = CALL.matcher(lines[k]);
            boolean read = call.matches();
            Due.is(where + " has a call with its answer in: " + lines[k], read, true);
            if (read) {
                shown.add(call.group(1));
                String got = answer(desk, call.group(1), numbers(call.group(2)));
                Due.is(where + ": " + lines[k], got, call.group(3).replace("NONE", NONE));
            }
        }
    }

    private static Object[] numbers(String text) {
        List<Object> numbers = new ArrayList<>();
        for (String number : text.isEmpty() ? new String[0] : text.split(", ")) {
            numbers.add(Integer.valueOf(number));
        }
        return numbers.toArray();
    }

    private static String answer(PumpDesk desk, String name, Object[] numbers) throws IllegalAccessException {
        for (Method method : PumpDesk.class.getDeclaredMethods()) {
            boolean fits = method.getName().equals(name) && method.getParameterCount() == numbers.length;
            if (fits && Modifier.isPublic(method.getModifiers())) {
                return called(desk, method, numbers);
            }
        }
        return "no such call";
    }

    private static String called(PumpDesk desk, Method method, Object[] numbers) throws IllegalAccessException {
        try {
            return String.valueOf(method.invoke(desk, numbers));
        } catch (InvocationTargetException thrown) {
            return String.valueOf(thrown.getCause());
        }
    }

    private void noCallIsLeftOut(String text) {
        for (Method method : PumpDesk.class.getDeclaredMethods()) {
            if (Modifier.isPublic(method.getModifiers())) {
                String name = method.getName();
                Due.is("README shows an answer of " + name, shown.contains(name), true);
                Due.is("README's table has " + name, text.contains("`" + name + "("), true);
            }
        }
    }

    private static void howToRunTheTests(String text) throws IOException {
        Due.is("README says how to run the tests", text.contains("\n    .ci/run\n"), true);
        Due.is(".ci/run is there to be run", Files.isExecutable(Path.of(".ci", "run")), true);
        Set<String> named = new TreeSet<>();
        Matcher item = Pattern.compile("(?m)^- `(\\w+Tests)`: ").matcher(text);
        while (item.find()) {
            named.add(item.group(1));
        }
        Due.is("README names the tests " + named + " of " + tests(), named.equals(tests()), true);
    }

    private static Set<String> tests() throws IOException {
        Set<String> names = new TreeSet<>();
        try (DirectoryStream<Path> files = Files.newDirectoryStream(TESTS, "*Tests.java")) {
            for (Path file : files) {
                names.add(file.getFileName().toString().replace(".java", ""));
            }
        }
        return names;
    }
}
