import java.lang.reflect.Method;
import java.util.ArrayList;
import java.util.List;

/** Runs texts of calls in the notation of the document's examples: name(1,2) = 3; name() = 4. */
final class Script {
    private static int wrong = 0;
    private static int calls = 0;

    private Script() {
    }

    /** Runs the calls on a new object; text behind a # up to the end of its line is a comment. */
    static void run(String title, String text) {
        run(title, new AggregateSplitter(), text);
    }

    static void run(String title, AggregateSplitter subject, String text) {
        for (String line : text.split("\n")) {
            for (String step : line.replaceFirst("#.*", "").split(";")) {
                if (!step.isBlank()) {
                    check(title, subject, step.trim());
                }
            }
        }
    }

    private static void check(String title, AggregateSplitter subject, String step) {
        int open = step.indexOf('(');
        int close = step.indexOf(')');
        int equals = step.indexOf('=', close);
        List<Integer> arguments = new ArrayList<>();
        for (String argument : step.substring(open + 1, close).split(",")) {
            if (!argument.isBlank()) {
                arguments.add(Integer.parseInt(argument.trim()));
            }
        }
        int due = Integer.parseInt(step.substring(equals + 1).trim());
        same(title + ": " + step, call(subject, step.substring(0, open), arguments), due);
    }

    static int call(AggregateSplitter subject, String name, List<Integer> arguments) {
        try {
            Class<?>[] types = new Class<?>[arguments.size()];
            java.util.Arrays.fill(types, int.class);
            Method method = AggregateSplitter.class.getMethod(name, types);
            return (Integer) method.invoke(subject, arguments.toArray());
        } catch (ReflectiveOperationException failure) {
            throw new IllegalStateException(name + arguments, failure);
        }
    }

    static void same(String what, long got, long due) {
        calls++;
        if (got != due) {
            wrong++;
            if (wrong <= 50) {
                System.out.println(what + ": answered " + got + ", due is " + due);
            }
        }
    }

    static void holds(String what, boolean condition) {
        same(what, condition ? 1 : 0, 1);
    }

    /** Ends the test: exit code 1 if an answer was wrong, or if nothing was asked at all. */
    static void end(String test) {
        System.out.println(test + ": " + calls + " answers, " + wrong + " wrong");
        if (wrong != 0 || calls == 0) {
            System.exit(1);
        }
    }
}
