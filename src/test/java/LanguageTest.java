import java.io.IOException;
import java.lang.reflect.Constructor;
import java.lang.reflect.Field;
import java.lang.reflect.Method;
import java.lang.reflect.Modifier;
import java.nio.file.Files;
import java.nio.file.Path;
import java.util.Arrays;
import java.util.HashSet;
import java.util.Set;
import java.util.TreeSet;
import java.util.regex.Matcher;
import java.util.regex.Pattern;

/** Rules of LANGUAGE.md that can be read from the class or from its source. */
public final class LanguageTest {
    private static final Path SOURCE = Path.of("src/main/java/AggregateSplitter.java");
    private static final String[] FACE = {
        "declareRecord 1", "appendStore 4", "appendLoad 4", "appendCopy 5", "appendEscape 1", "appendConstant 2",
        "appendAdd 3", "appendSkip 2", "appendOutput 1", "removeInstruction 1", "undo 0", "recordCount 0",
        "instructionCount 0", "escapes 1", "partitionCount 1", "partitionStart 2", "partitionLength 2",
        "isPromotable 2", "isLive 2", "paddingBytes 1", "pieceCount 1", "pieceLength 2", "scalarCount 0",
        "liveBytes 0", "trapPosition 0", "outputCount 1", "outputAt 2", "checksum 1", "cost 1"};
    private static final String[] BANNED = {
        "throw", "throws", "try", "catch", "finally", "synchronized", "assert", "import", "package", "volatile",
        "native", "transient", "hashCode", "toString", "System", "Thread", "Object", "var", "java", "float", "double"};

    public static void main(String[] args) throws IOException {
        face();
        ownClasses();
        source(Files.readString(SOURCE));
        Script.end("LanguageTest");
    }

    private static void face() {
        Class<?> type = AggregateSplitter.class;
        Script.holds("rule 1: public and final", Modifier.isPublic(type.getModifiers()) && Modifier.isFinal(type.getModifiers()));
        Set<String> found = new TreeSet<>();
        Set<String> names = new HashSet<>();
        for (Method method : type.getDeclaredMethods()) {
            if (!Modifier.isPrivate(method.getModifiers())) {
                Script.holds("public: " + method, Modifier.isPublic(method.getModifiers()) && !Modifier.isStatic(method.getModifiers()));
                Script.holds("int: " + method, method.getReturnType() == int.class);
                found.add(method.getName() + " " + method.getParameterCount());
                names.add(method.getName());
            }
        }
        Script.holds("rule 1: the methods of the document and no other: " + found, found.equals(new TreeSet<>(Set.of(FACE))));
        for (Method method : type.getDeclaredMethods()) {
            Script.holds("rule 1: name of " + method, !Modifier.isPrivate(method.getModifiers()) || !names.contains(method.getName()));
        }
        Constructor<?>[] constructors = type.getDeclaredConstructors();
        Script.holds("one public constructor", constructors.length == 1 && constructors[0].getParameterCount() == 0
                && Modifier.isPublic(constructors[0].getModifiers()));
        Set<String> constants = new TreeSet<>();
        for (Field field : type.getDeclaredFields()) {
            if (!Modifier.isPrivate(field.getModifiers())) {
                constants.add(field.getName());
            }
        }
        Script.holds("the constants: " + constants, constants.equals(new TreeSet<>(Set.of("INVALID_ARGUMENT", "INVALID_STATE", "LIMIT_REACHED", "NONE"))));
    }

    private static void ownClasses() {
        Class<?>[] own = AggregateSplitter.class.getDeclaredClasses();
        Script.holds("rule 11: classes", own.length < 12);
        for (Class<?> type : own) {
            Script.holds("rule 2: static: " + type, Modifier.isStatic(type.getModifiers()) && !Modifier.isPublic(type.getModifiers()));
            limits(type);
            for (Method method : type.getDeclaredMethods()) {
                Script.holds("rule 1: a public name: " + method, Arrays.stream(FACE).noneMatch(line -> line.startsWith(method.getName() + " ")));
            }
        }
        limits(AggregateSplitter.class);
    }

    private static void limits(Class<?> type) {
        int fields = 0;
        for (Field field : type.getDeclaredFields()) {
            boolean isStatic = Modifier.isStatic(field.getModifiers());
            Script.holds("rule 5: final: " + field, !isStatic || Modifier.isFinal(field.getModifiers()));
            fields += isStatic ? 0 : 1;
        }
        Script.holds("rule 11: fields of " + type, fields <= 20);
        for (Method method : type.getDeclaredMethods()) {
            Script.holds("rule 11: parameters of " + method, method.getParameterCount() <= 7);
            Script.holds("no synthetic method: " + method, !method.isSynthetic());
        }
    }

    private static void source(String text) {
        String code = text.replaceAll("(?s)/\\*.*?\\*/", "").replaceAll("//[^\n]*", "");
        for (String word : BANNED) {
            Script.holds("not in the source: " + word, !Pattern.compile("\\b" + word + "\\b").matcher(code).find());
        }
        Script.holds("no lambda, method reference or text", !code.contains("->") && !code.contains("::") && !code.contains("\""));
        Script.holds("rule 4: no name that ends in Exact", !Pattern.compile("Exact\\b").matcher(code).find());
        Script.holds("rule 5: no static initialiser block", !Pattern.compile("static\\s*\\{").matcher(code).find());
        Script.holds("signs 1 to 127", text.chars().allMatch(sign -> sign > 0 && sign < 128));
        methodsStayShort(code);
    }

    /** A method's head stands four or eight blanks in; it ends at the brace that stands as far in. */
    private static void methodsStayShort(String code) {
        Matcher method = Pattern.compile("(?ms)^( {4}| {8})\\w[\\w\\[\\] ]* \\w+\\([^)]*\\) \\{$.*?^\\1\\}$").matcher(code);
        int methods = 0;
        while (method.find()) {
            methods++;
            long lines = method.group().lines().count();
            Script.holds("rule 11: a method of " + lines + " lines: " + method.group().lines().findFirst().orElse(""), lines <= 60);
        }
        Script.holds("methods seen: " + methods, methods > FACE.length);
    }
}
