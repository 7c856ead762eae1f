import java.lang.reflect.InvocationTargetException;
import java.lang.reflect.Method;
import java.lang.reflect.Modifier;
import java.util.ArrayList;
import java.util.HashMap;
import java.util.List;
import java.util.Map;

/**
 * A run of calls on one new object, told as text, each call with the answer that is due:
 *
 * <pre>road(0, 1, 5, 0) 0; road(0, 10, 5, 0) -1; shut(0, true)</pre>
 *
 * A call without an answer is made, and what it answers is not looked at. MIN, MAX and LOST stand
 * for their numbers. Four more words stand for several calls: row(k, lane, cells ..) fills a sheet,
 * spots(..) makes the book by way of sheet 3, way(metres) lays a new road of that length from 0 to
 * 1, and timed(metres) the same at 600 metres a minute, so that the metres are the tenths due.
 */
final class Run {
    private static final int MOST_CALLS = 512;
    private static final Map<String, Method> METHODS = new HashMap<>();

    static {
        for (Method method : RegularRally.class.getDeclaredMethods()) {
            if (Modifier.isPublic(method.getModifiers())) {
                METHODS.put(method.getName(), method);
            }
        }
    }

    private final RegularRally rally = new RegularRally();
    private int calls = 0;

    static Run of(String calls) {
        return new Run().then(calls);
    }

    Run then(String text) {
        for (String call : text.split("[;\n]")) {
            if (!call.isBlank()) {
                perform(call.strip());
            }
        }
        return this;
    }

    /** The calls so many times, each time with the round's number in the place of each #. */
    Run times(int rounds, String text) {
        for (int round = 0; round < rounds; round++) {
            then(text.replace("#", String.valueOf(round)));
        }
        return this;
    }

    long answer(String call) {
        int open = call.indexOf('(');
        return make(call.substring(0, open), argumentsOf(call.substring(open + 1, call.length() - 1)));
    }

    private void perform(String told) {
        int close = told.lastIndexOf(')');
        if (close < 0) {
            throw new IllegalArgumentException("no call: " + told);
        }
        String call = told.substring(0, close + 1);
        String due = told.substring(close + 1).strip();
        long got = answer(call);
        if (!due.isEmpty()) {
            Due.due(call, got, number(due));
        }
    }

    private long make(String name, List<String> arguments) {
        switch (name) {
            case "row":
                return row(arguments);
            case "spots":
                return spots(arguments);
            case "way":
                return way(arguments.get(0));
            case "timed":
                way(arguments.get(0));
                then("speed(0, 600) 1");
                return 1;
            default:
                return makeOne(name, arguments);
        }
    }

    private long row(List<String> arguments) {
        String k = arguments.get(0);
        then("sheet(" + k + ", " + arguments.get(1) + ", " + (arguments.size() - 2) + ") 1");
        for (int i = 2; i < arguments.size(); i++) {
            then("put(" + k + ", " + (i - 2) + ", " + arguments.get(i) + ") 1");
        }
        return arguments.size() - 2;
    }

    private long spots(List<String> spots) {
        then("row(3, 2, " + String.join(", ", spots) + ")");
        then("book(3, 2, 0, " + spots.size() + ") " + spots.size());
        return spots.size();
    }

    private long way(String metres) {
        then("road(0, 1, " + metres + ", 0); spots(0, 1); lay() 1; told(2) " + metres);
        return 1;
    }

    private long makeOne(String name, List<String> told) {
        Method method = METHODS.get(name);
        if (method == null || method.getParameterCount() != told.size()) {
            throw new IllegalArgumentException("no such call: " + name + told);
        }
        Object[] arguments = new Object[told.size()];
        for (int p = 0; p < arguments.length; p++) {
            boolean isFlag = method.getParameterTypes()[p] == boolean.class;
            arguments[p] = isFlag ? (Object) flag(told.get(p)) : (Object) (int) number(told.get(p));
        }
        calls++;
        if (calls > MOST_CALLS) {
            throw new IllegalStateException("what a call answers is free behind the 512th");
        }
        try {
            return ((Number) method.invoke(rally, arguments)).longValue();
        } catch (InvocationTargetException thrown) {
            Due.holds(name + told + " throws nothing: " + thrown.getCause(), false);
            return 0;
        } catch (IllegalAccessException impossible) {
            throw new IllegalStateException(impossible);
        }
    }

    private static List<String> argumentsOf(String text) {
        List<String> arguments = new ArrayList<>();
        for (String argument : text.split(",")) {
            if (!argument.isBlank()) {
                arguments.add(argument.strip());
            }
        }
        return arguments;
    }

    private static boolean flag(String told) {
        if (!told.equals("true") && !told.equals("false")) {
            throw new IllegalArgumentException("neither true nor false: " + told);
        }
        return told.equals("true");
    }

    private static long number(String told) {
        switch (told) {
            case "MIN":
                return Integer.MIN_VALUE;
            case "MAX":
                return Integer.MAX_VALUE;
            case "LOST":
                return Long.MIN_VALUE;
            default:
                return Long.parseLong(told);
        }
    }
}
