import java.io.IOException;
import java.lang.reflect.Field;
import java.lang.reflect.Member;
import java.lang.reflect.Method;
import java.lang.reflect.Modifier;
import java.nio.file.Files;
import java.nio.file.Path;
import java.util.Arrays;
import java.util.HashSet;
import java.util.List;
import java.util.Set;
import java.util.TreeSet;
import java.util.regex.Matcher;
import java.util.regex.Pattern;

// The public face of the class, and the rules of LANGUAGE.md that can be told from names and words.
public final class FaceTest {
    private static final List<String> METHODS = List.of(
        "side(int)", "shape(int,int,int)", "left(int,int,int)", "right(int,int,int)",
        "fault(int,int,int)", "leave(int)", "begin(int,int)", "tick(int)", "drain()", "all()",
        "entry(int,int,int)", "cellOf(int,int,int)", "result(int,int,int)", "count(int)",
        "suspects(int)", "wouldBeWrong(int)", "best()", "undo()", "type(int)", "clearText()",
        "textFault(int)", "read(int)");
    private static final List<String> CONSTANTS = List.of(
        "INVALID_ARGUMENT", "NOT_POSSIBLE", "LIMIT_REACHED", "NOT_FOUND");
    private static final List<String> FORBIDDEN = List.of(
        "throw", "throws", "try", "catch", "finally", "synchronized", "assert", "protected",
        "package", "volatile", "transient", "native", "Exception", "Error", "System.out", "::");
    private static final List<String> IMPORTS = List.of(
        "import java.util.ArrayList;", "import java.util.Arrays;", "import java.util.Iterator;",
        "import java.util.List;");
    // An arrow that doesn't stand behind a case is a lambda's.
    private static final Pattern LAMBDA = Pattern.compile("(?m)^(?!\\s*(case\\b|default\\b)).*->");

    private FaceTest() {
    }

    public static void main(String[] args) {
        Check.runTestsOf(FaceTest.class);
    }

    static void constants() {
        Check.due("INVALID_ARGUMENT", SkewedSquare.INVALID_ARGUMENT, -1000001);
        Check.due("NOT_POSSIBLE", SkewedSquare.NOT_POSSIBLE, -1000002);
        Check.due("LIMIT_REACHED", SkewedSquare.LIMIT_REACHED, -1000003);
        Check.due("NOT_FOUND", SkewedSquare.NOT_FOUND, -1000004);
    }

    static void classItself() {
        int modifiers = SkewedSquare.class.getModifiers();
        Check.truth("the class is public", Modifier.isPublic(modifiers));
        Check.truth("the class is final", Modifier.isFinal(modifiers));
        Check.truth("the class has no package", SkewedSquare.class.getPackageName().isEmpty());
        Check.due("constructors", SkewedSquare.class.getDeclaredConstructors().length, 1);
        Check.due("public constructors", SkewedSquare.class.getConstructors().length, 1);
    }

    static void members() {
        Set<String> open = new TreeSet<>();
        Set<String> openNames = new HashSet<>();
        for (Method method : SkewedSquare.class.getDeclaredMethods()) {
            if (isPrivate(method) || method.isSynthetic()) {
                continue;
            }
            open.add(method.getName() + parameters(method));
            openNames.add(method.getName());
            Check.truth(method.getName() + " is public", Modifier.isPublic(method.getModifiers()));
            Check.truth(method.getName() + " answers an int", method.getReturnType() == int.class);
            Check.truth(method.getName() + " is of an object", !Modifier.isStatic(method.getModifiers()));
        }
        Check.truth("the methods are those of the document: " + open, open.equals(new TreeSet<>(METHODS)));
        privateNames(SkewedSquare.class, openNames);
        for (Class<?> inside : SkewedSquare.class.getDeclaredClasses()) {
            privateNames(inside, openNames);
        }
        Set<String> fields = new TreeSet<>();
        for (Field field : SkewedSquare.class.getDeclaredFields()) {
            if (!isPrivate(field)) {
                fields.add(field.getName());
            }
        }
        Check.truth("the constants are those of the document: " + fields, fields.equals(new TreeSet<>(CONSTANTS)));
    }

    private static void privateNames(Class<?> type, Set<String> openNames) {
        for (Method method : type.getDeclaredMethods()) {
            if (isPrivate(method)) {
                Check.truth(type.getName() + "." + method.getName() + " has a name of its own",
                    !openNames.contains(method.getName()));
            }
        }
    }

    static void nestedClasses() {
        Class<?>[] inside = SkewedSquare.class.getDeclaredClasses();
        Check.truth("at most twelve classes", inside.length + 1 <= 12);
        for (Class<?> type : inside) {
            Check.truth(type.getName() + " is static", Modifier.isStatic(type.getModifiers()));
            Check.truth(type.getName() + " isn't public", !Modifier.isPublic(type.getModifiers()));
            int fields = 0;
            for (Field field : type.getDeclaredFields()) {
                fields += Modifier.isStatic(field.getModifiers()) ? 0 : 1;
                Check.truth(type.getName() + "." + field.getName() + ": static only if final",
                    !Modifier.isStatic(field.getModifiers()) || Modifier.isFinal(field.getModifiers()));
            }
            Check.truth(type.getName() + " has at most twenty fields", fields <= 20);
            for (Method method : type.getDeclaredMethods()) {
                Check.truth(method + " takes at most seven parameters", method.getParameterCount() <= 7);
            }
        }
    }

    static void words() throws IOException {
        String source = Files.readString(Path.of("src/main/java/SkewedSquare.java"));
        String code = source.replaceAll("//[^\n]*", "");
        for (String word : FORBIDDEN) {
            Pattern pattern = Character.isLetter(word.charAt(0))
                ? Pattern.compile("\\b" + Pattern.quote(word) + "\\b")
                : Pattern.compile(Pattern.quote(word));
            Matcher matcher = pattern.matcher(code);
            Check.truth("no word " + word, !matcher.find());
        }
        Check.truth("no lambda", !LAMBDA.matcher(code).find());
        for (String line : code.split("\n")) {
            Check.truth("only what rule 4 lists is imported: " + line,
                !line.startsWith("import") || IMPORTS.contains(line.trim()));
        }
        Check.truth("the signs of the file are 1 to 127", source.chars().allMatch(sign -> sign >= 1 && sign <= 127));
    }

    private static boolean isPrivate(Member member) {
        return Modifier.isPrivate(member.getModifiers());
    }

    private static String parameters(Method method) {
        StringBuilder names = new StringBuilder("(");
        for (Class<?> type : Arrays.asList(method.getParameterTypes())) {
            names.append(names.length() > 1 ? "," : "").append(type.getName());
        }
        return names.append(")").toString();
    }
}
