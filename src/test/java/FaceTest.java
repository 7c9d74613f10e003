import java.io.IOException;
import java.lang.reflect.Constructor;
import java.lang.reflect.Field;
import java.lang.reflect.Method;
import java.lang.reflect.Modifier;
import java.nio.file.Files;
import java.nio.file.Path;
import java.util.ArrayList;
import java.util.List;
import java.util.Set;
import java.util.TreeSet;
import java.util.regex.Matcher;
import java.util.regex.Pattern;

/** The document's "public face": every line of it stands in the class, and the class shows nothing else. */
public final class FaceTest {
    private static final Path DOCUMENT = Path.of("../shared/DOC.md");
    private static final Path SOURCE = Path.of("src/main/java/AggregateSplitter.java");

    public static void main(String[] args) throws IOException, IllegalAccessException {
        String document = Files.readString(DOCUMENT);
        List<String> face = face(document);
        // One constructor, 29 methods and four constants.
        Script.same("lines of the face", face.size(), 34);
        inTheSource(face, Files.readString(SOURCE));
        nothingElse(face);
        signatures(face, document);
        Script.end("FaceTest");
    }

    /** The lines between the braces of the class, without blanks before them and without the semicolon. */
    private static List<String> face(String document) {
        Matcher block = Pattern.compile("(?s)```java\npublic final class AggregateSplitter \\{\n(.*?)\n\\}\n```").matcher(document);
        List<String> lines = new ArrayList<>();
        if (block.find()) {
            for (String line : block.group(1).split("\n")) {
                lines.add(line.trim().replaceFirst(";$", ""));
            }
        }
        return lines;
    }

    private static void inTheSource(List<String> face, String source) {
        Script.holds("the class is public and final", source.contains("\npublic final class AggregateSplitter {\n"));
        for (String line : face) {
            String end = line.endsWith(")") ? " {\n" : ";\n";
            Script.holds("in the source, word for word: " + line, source.contains("\n    " + line + end));
        }
    }

    private static void nothingElse(List<String> face) throws IllegalAccessException {
        Set<String> seen = new TreeSet<>();
        for (Field field : AggregateSplitter.class.getDeclaredFields()) {
            if (!Modifier.isPrivate(field.getModifiers())) {
                seen.add(Modifier.toString(field.getModifiers()) + " " + field.getType() + " " + field.getName() + " = " + field.getInt(null));
            }
        }
        for (Constructor<?> constructor : AggregateSplitter.class.getDeclaredConstructors()) {
            seen.add(Modifier.toString(constructor.getModifiers()) + " AggregateSplitter" + types(constructor.getParameterTypes()));
        }
        for (Method method : AggregateSplitter.class.getDeclaredMethods()) {
            if (!Modifier.isPrivate(method.getModifiers())) {
                seen.add(Modifier.toString(method.getModifiers()) + " " + method.getReturnType() + " " + method.getName() + types(method.getParameterTypes()));
            }
        }
        Set<String> due = new TreeSet<>();
        for (String line : face) {
            due.add(line.replaceAll("\\bint \\w+(?=[,)])", "int"));
        }
        Script.holds("the class shows " + seen + ", due is " + due, seen.equals(due));
    }

    private static String types(Class<?>[] types) {
        List<String> names = new ArrayList<>();
        for (Class<?> type : types) {
            names.add(type.getName());
        }
        return "(" + String.join(", ", names) + ")";
    }

    /** Each promise has the signature of its line of the face, in the same order. */
    private static void signatures(List<String> face, String document) {
        Matcher promise = Pattern.compile("(?m)^## Promise (\\d+): .*\n\n`(.*)`$").matcher(document);
        int number = 0;
        while (promise.find()) {
            number++;
            Script.same("number of a promise", Integer.parseInt(promise.group(1)), number);
            int line = number + 3;
            Script.holds("promise " + number + ", " + promise.group(2), line < face.size() && face.get(line).equals("public " + promise.group(2)));
        }
        Script.same("promises", number, 30);
    }
}
