import java.io.IOException;
import java.lang.reflect.InvocationTargetException;
import java.lang.reflect.Method;
import java.lang.reflect.Modifier;
import java.nio.file.DirectoryStream;
import java.nio.file.Files;
import java.nio.file.Path;
import java.util.Set;
import java.util.TreeSet;
import java.util.regex.Matcher;
import java.util.regex.Pattern;

// What README.md says is so: its example answers as it says, each call of the class is named with
// its arguments, and each file of the tests.
public final class ReadmeTest {
    private static final Pattern EXAMPLE = Pattern.compile("```java\n(.*?)```", Pattern.DOTALL);
    private static final Pattern CALL = Pattern.compile("x\\.(\\w+)\\(([-0-9, ]*)\\);(?:\\s*//(?: (-?[0-9]+):)?.*)?");
    private static final Pattern NAMED_CALL = Pattern.compile("`(\\w+)\\(([\\w, ]*)\\)`");
    private static final Pattern NAMED_FILE = Pattern.compile("`([A-Z]\\w+)`");

    private ReadmeTest() {
    }

    public static void main(String[] args) {
        Check.runTestsOf(ReadmeTest.class);
    }

    private static String readme() throws IOException {
        return Files.readString(Path.of("README.md"));
    }

    private static String part(String heading) throws IOException {
        String text = readme();
        int from = text.indexOf("\n## " + heading + "\n");
        Check.truth("there is a part '" + heading + "'", from >= 0);
        int to = text.indexOf("\n## ", from + 1);
        return text.substring(Math.max(from, 0), to < 0 ? text.length() : to);
    }

    static void exampleAnswersAsItSays() throws IOException, ReflectiveOperationException {
        Matcher example = EXAMPLE.matcher(part("How to use it"));
        Check.truth("there is an example", example.find());
        String[] lines = example.group(1).split("\n");
        Check.truth("it begins with a new object", lines[0].startsWith("SkewedSquare x = new SkewedSquare();"));
        SkewedSquare x = new SkewedSquare();
        int told = 0;
        for (int i = 1; i < lines.length; i++) {
            Matcher call = CALL.matcher(lines[i]);
            boolean isCall = call.matches();
            Check.truth("'" + lines[i] + "' is a call", isCall);
            if (isCall) {
                int answer = answerOf(x, call.group(1), call.group(2));
                told += call.group(3) == null ? 0 : 1;
                Check.due(lines[i], answer, call.group(3) == null ? answer : Integer.parseInt(call.group(3)));
                Check.truth(lines[i] + " is no error", answer > Check.INVALID);
            }
        }
        Check.truth("some answers are told", told > 0);
    }

    private static int answerOf(SkewedSquare x, String name, String arguments)
            throws IllegalAccessException, InvocationTargetException {
        String[] texts = arguments.isEmpty() ? new String[0] : arguments.split(", ");
        Object[] numbers = new Object[texts.length];
        for (int i = 0; i < texts.length; i++) {
            numbers[i] = Integer.valueOf(texts[i]);
        }
        for (Method method : SkewedSquare.class.getMethods()) {
            if (method.getName().equals(name) && method.getParameterCount() == numbers.length) {
                return (Integer) method.invoke(x, numbers);
            }
        }
        Check.truth("there is a call " + name + "(" + arguments + ")", false);
        return 0;
    }

    static void eachCallIsNamed() throws IOException {
        Set<String> named = new TreeSet<>();
        Matcher call = NAMED_CALL.matcher(part("How to use it"));
        while (call.find()) {
            named.add(call.group(1) + " of " + (call.group(2).isEmpty() ? 0 : call.group(2).split(",").length));
        }
        Set<String> calls = new TreeSet<>();
        for (Method method : SkewedSquare.class.getDeclaredMethods()) {
            if (Modifier.isPublic(method.getModifiers())) {
                calls.add(method.getName() + " of " + method.getParameterCount());
            }
        }
        Check.due("the calls that are named", named.toString(), calls.toString());
    }

    static void eachFileOfTheTestsIsNamed() throws IOException {
        Set<String> named = new TreeSet<>();
        Matcher file = NAMED_FILE.matcher(part("How to run the tests"));
        while (file.find()) {
            named.add(file.group(1));
        }
        try (DirectoryStream<Path> files = Files.newDirectoryStream(Path.of("src/test/java"), "*.java")) {
            for (Path path : files) {
                String name = path.getFileName().toString().replace(".java", "");
                Check.truth(name + " is named", named.remove(name));
            }
        }
        Check.due("named, but there is no such file", named.toString(), "[]");
    }
}
