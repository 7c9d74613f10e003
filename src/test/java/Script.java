import java.lang.reflect.Method;
import java.util.ArrayList;
import java.util.List;

/**
 * Runs texts of calls in the notation of the document's examples: name(1,2) = 3; name() = 4. A call without
 * "= .." is made, but its answer is not looked at; MIN and MAX are the smallest and the greatest int.
 */
final class Script {
    /** "An object is used for at most 512 calls after it has been made; what later calls answer is free." */
    static final int PROMISED_CALLS = 512;
    private static int wrong = 0;
    private static int calls = 0;

    private Script() {
    }

    /** Runs the calls on a new object; text behind a # up to the end of its line is a comment. */
    static void run(String title, String text) {
        run(title, new AggregateSplitter(), text);
    }

    static void run(String title, AggregateSplitter subject, String text) {
        int steps = 0;
        for (String line : text.split("\n")) {
            for (String step : line.replaceFirst("#.*", "").split(";")) {
                if (!step.isBlank()) {
                    check(title, subject, step.trim());
                    steps++;
                }
            }
        }
        if (steps > PROMISED_CALLS) {
            holds(title + ": a test of " + steps + " calls asks for more than the document promises", false);
        }
    }

    private static void check(String title, AggregateSplitter subject, String step) {
        int open = step.indexOf('(');
        int close = step.indexOf(')');
        int equals = step.indexOf('=', close);
        List<Integer> arguments = new ArrayList<>();
        for (String argument : step.substring(open + 1, close).split(",")) {
            if (!argument.isBlank()) {
                arguments.add(number(argument));
            }
        }
        int got = call(subject, step.substring(0, open), arguments);
        if (equals >= 0) {
            same(title + ": " + step, got, number(step.substring(equals + 1)));
        }
    }

    private static int number(String text) {
        return switch (text.trim()) {
            case "MIN" -> Integer.MIN_VALUE;
            case "MAX" -> Integer.MAX_VALUE;
            default -> Integer.parseInt(text.trim());
        };
    }

    static int call(AggregateSplitter subject, String name, List<Integer> arguments) {
        try {
            Class<?>[] types = new Class<?>[arguments.size()];
            java.util.Arrays.fill(types, int.class);
            Method method = AggregateSplitter.class.getMethod(name, types);
            return (Integer) method.invoke(subject, arguments.toArray());
        } catch (ReflectiveOperationException failure) {
            throw new IllegalStateException(name + arguments, failure);
        }
    }

    /** How many answers have been looked at up to now. */
    static int answers() {
        return calls;
    }

    static void same(String what, long got, long due) {
        calls++;
        if (got != due) {
            wrong++;
            if (wrong <= 50) {
                System.out.println(what + ": answered " + got + ", due is " + due);
            }
        }
    }

    static void holds(String what, boolean condition) {
        same(what, condition ? 1 : 0, 1);
    }

    /** Ends the test: exit code 1 if an answer was wrong, or if nothing was asked at all. */
    static void end(String test) {
        System.out.println(test + ": " + calls + " answers, " + wrong + " wrong");
        if (wrong != 0 || calls == 0) {
            System.exit(1);
        }
    }
}
