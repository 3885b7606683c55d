import java.io.IOException;
import java.lang.reflect.Constructor;
import java.lang.reflect.Field;
import java.lang.reflect.Method;
import java.lang.reflect.Modifier;
import java.nio.file.Files;
import java.nio.file.Path;
import java.util.Arrays;
import java.util.Set;
import java.util.TreeSet;

/** The public face is the document's and nothing more, and some rules of LANGUAGE.md. */
public final class FaceTest {
    private static final Set<String> FACE = new TreeSet<>(Arrays.asList(
            "int fault(long,long)", "int test(long)", "int odds(int,int,int,long,long)",
            "int needs(int,int)", "int next(long)", "int answer(int,int)",
            "long odd(int,int) throws class java.lang.ArithmeticException",
            "boolean exact()", "long cost()", "int pair(int,int)", "int learn(int)",
            "int tree(int,int)", "int never(int)"));

    private static final String[] FORBIDDEN = {
        "->", "::", "catch", "finally", "synchronized", "assert ", "Exact(", "double", "float",
        "System.", "Random", "getMessage", "native"};

    private final Check check = new Check();

    public static void main(String[] args) throws IOException {
        FaceTest test = new FaceTest();
        test.members(GuideSearch.class);
        test.nested();
        String source = Files.readString(Path.of("src/main/java/GuideSearch.java"));
        test.words(source);
        test.written(Files.readString(Path.of("../shared/DOC.md")), source);
        test.check.end();
    }

    private void members(Class<?> face) {
        check.due("the class is public and final", Modifier.isPublic(face.getModifiers())
                && Modifier.isFinal(face.getModifiers()), true);
        Set<String> seen = new TreeSet<>();
        for (Method method : face.getDeclaredMethods()) {
            if (!Modifier.isPrivate(method.getModifiers())) {
                seen.add(told(method));
                check.due(method + " is an object's", Modifier.isStatic(method.getModifiers()),
                        false);
            }
        }
        check.due("the face is " + seen, seen.equals(FACE), true);
        for (Field field : face.getDeclaredFields()) {
            check.due("field " + field.getName() + " is private",
                    Modifier.isPrivate(field.getModifiers()), true);
        }
        Constructor<?>[] constructors = face.getDeclaredConstructors();
        check.due("constructors", constructors.length, 1);
        check.due("the constructor is public", Modifier.isPublic(constructors[0].getModifiers()),
                true);
        check.due("the constructor takes", constructors[0].getParameterCount(), 0);
    }

    private static String told(Method method) {
        StringBuilder text = new StringBuilder();
        text.append(method.getReturnType()).append(' ').append(method.getName()).append('(');
        for (int i = 0; i < method.getParameterCount(); i++) {
            text.append(i == 0 ? "" : ",").append(method.getParameterTypes()[i]);
        }
        text.append(')');
        for (Class<?> thrown : method.getExceptionTypes()) {
            text.append(" throws ").append(thrown);
        }
        return text.toString();
    }

    private void nested() {
        Set<String> names = new TreeSet<>();
        for (String method : FACE) {
            names.add(method.substring(method.indexOf(' ') + 1, method.indexOf('(')));
        }
        check.due("at most twelve classes", GuideSearch.class.getDeclaredClasses().length < 12,
                true);
        for (Class<?> inside : GuideSearch.class.getDeclaredClasses()) {
            check.due(inside + " is static", Modifier.isStatic(inside.getModifiers()), true);
            for (Method method : inside.getDeclaredMethods()) {
                check.due(inside + " has a name of the face: " + method.getName(),
                        names.contains(method.getName()), false);
            }
        }
    }

    /** Each line of the document's face stands in the source, with its parameters' names. */
    private void written(String document, String source) {
        int start = document.indexOf("```java\n") + "```java\n".length();
        String face = document.substring(start, document.indexOf("```", start));
        int lines = 0;
        for (String line : face.split("\n")) {
            if (line.strip().startsWith("public ")) {
                lines++;
                String head = line.strip().replace(";", " {").replace("{", "{\n");
                check.due("the source has " + line.strip(), source.contains(head), true);
            }
        }
        check.due("lines of the face", lines, FACE.size() + 2);
    }

    private void words(String source) {
        for (String word : FORBIDDEN) {
            check.due("the source holds " + word, source.contains(word), false);
        }
    }
}
