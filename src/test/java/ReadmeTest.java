import java.io.IOException;
import java.nio.file.Files;
import java.nio.file.Path;
import java.util.ArrayList;
import java.util.HashMap;
import java.util.List;
import java.util.Map;
import java.util.Set;
import java.util.TreeSet;
import java.util.regex.Matcher;
import java.util.regex.Pattern;
import java.util.stream.Stream;

/** What README.md shows is what the class answers, and its table names every test that there is. */
public final class ReadmeTest {
    private static final Path PAGE = Path.of("README.md");
    private static final Path TESTS = Path.of("src/test/java");
    private static final Pattern OBJECT = Pattern.compile("AggregateSplitter (\\w+) = new AggregateSplitter\\(\\);");
    private static final Pattern CALL = Pattern.compile("(\\w+)\\.(\\w+)\\(([-\\d, ]*)\\); +// (-?\\d+)(: (INVALID_ARGUMENT|INVALID_STATE|LIMIT_REACHED|NONE)?.*)?");
    private static final Map<String, Integer> CONSTANTS = Map.of("INVALID_ARGUMENT", AggregateSplitter.INVALID_ARGUMENT,
            "INVALID_STATE", AggregateSplitter.INVALID_STATE, "LIMIT_REACHED", AggregateSplitter.LIMIT_REACHED, "NONE", AggregateSplitter.NONE);

    private final Map<String, AggregateSplitter> objects = new HashMap<>();
    private final Set<String> constantsShown = new TreeSet<>();
    private final Set<String> namesShown = new TreeSet<>();

    public static void main(String[] args) throws IOException {
        String page = Files.readString(PAGE);
        new ReadmeTest().calls(page);
        table(page);
        Script.end("ReadmeTest");
    }

    /** The blocks of Java are one text: an object of one block is used in the next. */
    private void calls(String page) {
        Matcher block = Pattern.compile("(?s)```java\n(.*?)```").matcher(page);
        while (block.find()) {
            for (String line : block.group(1).split("\n")) {
                one(line);
            }
        }
        Script.holds("every error and NONE are shown: " + constantsShown, constantsShown.equals(CONSTANTS.keySet()));
        Script.holds("a call of each kind is shown: " + namesShown, namesShown.containsAll(
                List.of("declareRecord", "appendStore", "partitionCount", "isPromotable", "isLive", "pieceCount", "outputAt", "checksum", "cost", "removeInstruction", "undo")));
    }

    private void one(String line) {
        Matcher object = OBJECT.matcher(line);
        Matcher call = CALL.matcher(line);
        if (object.matches()) {
            objects.put(object.group(1), new AggregateSplitter());
        } else if (call.matches() && objects.containsKey(call.group(1))) {
            List<Integer> arguments = new ArrayList<>();
            for (String argument : call.group(3).split(",")) {
                if (!argument.isBlank()) {
                    arguments.add(Integer.parseInt(argument.trim()));
                }
            }
            int shown = Integer.parseInt(call.group(4));
            namesShown.add(call.group(2));
            Script.same("README: " + line, Script.call(objects.get(call.group(1)), call.group(2), arguments), shown);
            if (call.group(6) != null) {
                constantsShown.add(call.group(6));
                Script.same("README: " + line, CONSTANTS.get(call.group(6)), shown);
            }
        } else {
            Script.holds("README, a line of Java that is no call with its answer: " + line, false);
        }
    }

    private static void table(String page) throws IOException {
        Set<String> named = new TreeSet<>();
        Matcher row = Pattern.compile("(?m)^\\| `(\\w+Test)` \\|").matcher(page);
        while (row.find()) {
            named.add(row.group(1));
        }
        Set<String> present = new TreeSet<>();
        try (Stream<Path> files = Files.list(TESTS)) {
            files.map(file -> file.getFileName().toString().replace(".java", "")).filter(name -> name.endsWith("Test")).forEach(present::add);
        }
        Script.holds("README names " + named + ", there are " + present, named.equals(present));
    }
}
