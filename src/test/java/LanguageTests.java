import java.io.IOException;
import java.lang.reflect.Field;
import java.lang.reflect.Method;
import java.lang.reflect.Modifier;
import java.nio.file.Files;
import java.nio.file.Path;
import java.util.ArrayList;
import java.util.List;
import java.util.regex.Matcher;
import java.util.regex.Pattern;

/** What can be seen of the rules of LANGUAGE.md in the program's text; FaceTests looks at rule 1. */
public final class LanguageTests {
    private static final Path PROGRAM = Path.of("src", "main", "java", "PumpDesk.java");
    private static final List<String> LIBRARY = List.of("Math.max", "Math.min", "Math.floorDiv");
    private static final int MOST_LINES = 60;
    private static final int MOST_PARAMETERS = 7;
    private static final int MOST_CLASSES = 12;
    private static final int MOST_FIELDS = 20;

    public static void main(String[] args) throws IOException {
        String text = withoutComments(Files.readString(PROGRAM));
        noneOf(text);
        libraryCalls(text);
        methodLengths(text);
        classes();
        Due.end();
    }

    private static String withoutComments(String text) {
        return text.replaceAll("(?s)/\\*.*?\\*/", "").replaceAll("//[^\n]*", "");
    }

    private static void noneOf(String text) {
        String[] words = {
            "package", "import", "protected", "throw", "throws", "try", "catch", "finally",
            "synchronized", "volatile", "assert", "native", "float", "double", "System", "Thread",
            "equals", "hashCode", "toString"};
        for (String word : words) {
            Due.is("the word " + word, has(text, "\\b" + word + "\\b"), false);
        }
        Due.is("a lambda", text.contains("->"), false);
        Due.is("a method reference", text.contains("::"), false);
        Due.is("a static initialiser", has(text, "\\bstatic\\s*\\{"), false);
        Due.is("a static field that changes", has(text, "\\bstatic (?!final\\b)[^(]*;"), false);
        Due.is("a loop without an end of its own", has(text, "while \\(true\\)|for \\(;|;;"), false);
        Due.is("a letter beyond 255", has(text, "[^\\x00-\\xff]"), false);
    }

    private static boolean has(String text, String pattern) {
        return Pattern.compile(pattern).matcher(text).find();
    }

    /** Whatever is called by the name of a class must stand in the list. */
    private static void libraryCalls(String text) {
        Matcher call = Pattern.compile("\\b[A-Z][a-z]\\w*\\.\\w+").matcher(text);
        while (call.find()) {
            Due.is("the library's " + call.group(), LIBRARY.contains(call.group()), true);
        }
    }

    private static void methodLengths(String text) {
        String[] lines = text.split("\n");
        int begin = 0;
        for (int k = 0; k < lines.length; k++) {
            if (lines[k].matches(" {4}( {4})?(public|private) .*\\) \\{")) {
                begin = k;
            }
            if (lines[k].matches(" {4}( {4})?}")) {
                Due.is("the length of " + lines[begin].trim(), k - begin < MOST_LINES, true);
            }
        }
    }

    private static void classes() {
        List<Class<?>> all = new ArrayList<>(List.of(PumpDesk.class.getDeclaredClasses()));
        all.add(PumpDesk.class);
        Due.is("not too many classes", all.size() <= MOST_CLASSES, true);
        for (Class<?> one : all) {
            int fields = 0;
            for (Field field : one.getDeclaredFields()) {
                fields += Modifier.isStatic(field.getModifiers()) ? 0 : 1;
            }
            Due.is("not too many fields in " + one, fields <= MOST_FIELDS, true);
            for (Method method : one.getDeclaredMethods()) {
                Due.is("not too many parameters of " + method, method.getParameterCount() <= MOST_PARAMETERS, true);
            }
        }
    }
}
