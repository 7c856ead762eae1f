import java.lang.reflect.Method;
import java.util.ArrayList;
import java.util.Arrays;
import java.util.HashMap;
import java.util.List;
import java.util.Map;

/**
 * Runs of 512 calls on a RegularRally and a PlainRally side by side: each call has to answer alike.
 * The calls are drawn by a fixed row of numbers, so that each time the same runs are made.
 */
public final class PlainRallyTest {
    private static final int RUNS = 1500;
    private static final int CALLS = 512;
    private static final int[] WILD = {Integer.MIN_VALUE, Integer.MAX_VALUE, Integer.MIN_VALUE + 1,
        -1, -2, 32, 33, 16, 1000000, 1000001, 20001, 65536};

    /**
     * A call, how often it is drawn, and what each of its arguments is taken from; aBook and aProof
     * are runs of calls that end in a book, a proof of a row that is often a way.
     */
    private static final String[] CALL_TABLE = {
        "road 3 spot spot length kind", "shut 4 road is", "wet 4 road is", "about 6 road six",
        "book 4 sheet lane cell rowLength", "ways 1", "lay 1", "laid 2 ten",
        "proof 5 sheet lane cell rowLength", "speed 4 place v", "due 8 place", "roadAt 3 place",
        "control 5 place", "watch 3 control time time time time", "right 3 control time",
        "strike 4 control is", "car 2 start kind", "clock 18 car control time",
        "allow 8 car control claim", "error 10 car control", "points 10 car control",
        "result 14 car five", "sheet 4 sheet lane rowLength", "lose 1 sheet",
        "put 12 sheet cell spot", "put 2 sheet cell wild", "cell 6 sheet cell lane",
        "copy 4 sheet cell sheet cell rowLength", "tell 4 road", "greet 4 car", "as 4 car kind",
        "trace 2", "fault 8", "told 6 eight", "aBook 3", "aProof 8",
    };

    /** Calls of a rally under way. */
    private static final String[] DRIVING_TABLE = {
        "speed 2 place v", "due 4 place", "control 4 place", "watch 1 control time time time time",
        "right 1 control time", "strike 3 control is", "car 2 start kind",
        "clock 16 car control time", "allow 8 car control claim", "error 10 car control",
        "points 10 car control", "result 20 car five", "told 1 eight",
    };

    private static final Map<String, Method> REAL = methodsOf(RegularRally.class);
    private static final Map<String, Method> PLAIN = methodsOf(PlainRally.class);

    private static long drawn = 20261118;
    private static RegularRally real;
    private static PlainRally plain;
    private static List<String> told;
    private static int spots;
    private static int wildness;
    private static int compared = 0;
    private static int spent = 0;

    public static void main(String[] args) throws Exception {
        List<String[]> all = callsOf(CALL_TABLE);
        List<String[]> driving = callsOf(DRIVING_TABLE);
        for (int run = 0; run < RUNS; run++) {
            begin(run);
            List<String[]> first = run % 2 == 0 ? driving : all;
            while (told.size() < CALLS) {
                List<String[]> calls = told.size() < CALLS / 2 ? first : all;
                call(calls.get(draw(calls.size())));
            }
        }
        System.out.println(RUNS + " runs; " + compared + " searches compared with all ways, "
            + spent + " spent");
        Due.holds("searches were compared with all ways", compared > 500);
        Due.holds("searches were spent", spent > 5);
        Due.end();
    }

    /** Each call as often as it is drawn. */
    private static List<String[]> callsOf(String[] table) {
        List<String[]> calls = new ArrayList<>();
        for (String line : table) {
            String[] words = line.split(" ");
            for (int k = 0; k < Integer.parseInt(words[1]); k++) {
                calls.add(words);
            }
        }
        return calls;
    }

    private static Map<String, Method> methodsOf(Class<?> type) {
        Map<String, Method> methods = new HashMap<>();
        for (Method method : type.getDeclaredMethods()) {
            method.setAccessible(true);
            String key = method.getName() + method.getParameterCount();
            if (method.getName().equals("fault") && method.getParameterCount() > 0) {
                continue;
            }
            methods.put(key, method);
        }
        return methods;
    }

    private static int draw(int below) {
        drawn = drawn * 6364136223846793005L + 1442695040888963407L;
        return (int) Math.floorMod(drawn >>> 33, (long) below);
    }

    /** New objects; most runs begin with a map, a book, a way, controls and cars. */
    private static void begin(int run) throws Exception {
        real = new RegularRally();
        plain = new PlainRally();
        told = new ArrayList<>();
        spots = 2 + draw(5);
        wildness = run % 3 == 0 ? 4 : 40;
        if (run % 5 == 0) {
            return;
        }
        // a few maps of so many roads that searches are spent
        boolean isLarge = run % 100 == 1;
        int roads = isLarge ? 18 : 4 + draw(7);
        spots = isLarge ? 4 : spots;
        for (int r = 0; r < roads; r++) {
            call(new String[] {"road", "1", "spot", "spot", "length", "kind"});
        }
        compare("sheet", 0, 0, 2);
        compare("put", 0, 1, isLarge ? 9 : 1 + draw(spots - 1));
        compare("book", 0, 0, 0, 2);
        compare("lay");
        compare("speed", 0, 1 + draw(run % 4 == 0 ? 3000 : 900));
        for (int c = 0; c < 5; c++) {
            call(new String[] {"control", "1", "place"});
            call(new String[] {"car", "1", "start", "kind"});
        }
    }

    private static void call(String[] words) throws Exception {
        if (words[0].equals("aBook")) {
            aBook();
            return;
        }
        if (words[0].equals("aProof")) {
            aProof();
            return;
        }
        Object[] arguments = new Object[words.length - 2];
        for (int k = 0; k < arguments.length; k++) {
            boolean isFlag = words[k + 2].equals("is");
            arguments[k] = isFlag ? (Object) (draw(2) == 0) : (Object) argument(words[k + 2]);
        }
        compare(words[0], arguments);
    }

    private static void aBook() throws Exception {
        List<Integer> row = new ArrayList<>();
        int n = 2 + draw(draw(3) == 0 ? 7 : 3);
        while (row.size() < n) {
            int spot = draw(spots);
            if (row.isEmpty() || row.get(row.size() - 1) != spot || draw(20) == 0) {
                row.add(spot);
            }
        }
        fillAndCall("book", row);
    }

    private static void aProof() throws Exception {
        List<Integer> row = new ArrayList<>();
        int spot = plain.hasBook() ? plain.firstSpot() : 0;
        for (int step = draw(14); step > 0; step--) {
            List<Integer> exits = new ArrayList<>();
            for (int r = 0; r < plain.told(0); r++) {
                if (plain.otherEnd(r, spot) >= 0 && (!row.contains(r) || draw(40) == 0)) {
                    exits.add(r);
                }
            }
            int r = exits.isEmpty() || draw(40) == 0 ? draw(17) : exits.get(draw(exits.size()));
            row.add(r);
            spot = r < plain.told(0) ? plain.otherEnd(r, spot) : spot;
        }
        fillAndCall("proof", row);
    }

    private static void fillAndCall(String name, List<Integer> row) throws Exception {
        int k = draw(4);
        int lane = draw(3);
        compare("sheet", k, lane, row.size());
        for (int i = 0; i < row.size(); i++) {
            compare("put", k, i, row.get(i));
        }
        compare(name, k, lane, 0, row.size());
    }

    private static int argument(String from) {
        if (draw(wildness) == 0 || from.equals("wild")) {
            return WILD[draw(WILD.length)];
        }
        switch (from) {
            case "spot": return draw(spots);
            // few lengths, so that sums are often alike
            case "length": return 10 * (1 + draw(4)) + (draw(9) == 0 ? 1 : 0);
            case "kind": case "lane": return draw(3);
            case "road": return draw(plain.told(0) + 1);
            case "five": return draw(5);
            case "six": return draw(7);
            case "eight": return draw(9);
            case "ten": return draw(11);
            case "sheet": return draw(5) % 4;
            case "cell": return draw(3) == 0 ? draw(12) : 0;
            case "rowLength": return draw(8);
            case "place": return draw(plain.told(2) + 2);
            case "v": return 1 + draw(draw(2) == 0 ? 3000 : 60);
            case "control": return draw(plain.told(4) + 1);
            case "car": return draw(plain.told(5) + 1);
            case "start": return draw(100);
            case "time": return draw(draw(3) == 0 ? 2000 : 200);
            case "claim": return draw(3) == 0 ? draw(3001) : draw(40);
            default: throw new IllegalArgumentException(from);
        }
    }

    private static void compare(String name, Object... arguments) throws Exception {
        String key = name + arguments.length;
        if (told.size() >= CALLS) {
            return;
        }
        told.add(name + Arrays.toString(arguments));
        long got;
        try {
            got = ((Number) REAL.get(key).invoke(real, arguments)).longValue();
        } catch (ReflectiveOperationException thrown) {
            fail("threw " + thrown.getCause());
            return;
        }
        long want = ((Number) PLAIN.get(key).invoke(plain, arguments)).longValue();
        if (got != want) {
            fail("answered " + got + ", due is " + want);
        }
        spent += got == RegularRally.SPENT && name.matches("lay|ways") ? 1 : 0;
        if (name.equals("lay") || name.equals("ways")) {
            compareWithAllWays(name, got);
        }
    }

    private static void compareWithAllWays(String name, long got) {
        List<List<Integer>> least = plain.hasBook() ? plain.leastOfAll() : null;
        if (least == null || got == RegularRally.SPENT) {
            return;
        }
        compared++;
        if (name.equals("ways")) {
            Due.due("ways() against all ways", got, least.size());
            return;
        }
        Due.due("lay() against all ways", got, least.isEmpty() ? -9 : least.get(0).size());
        for (int p = 0; p < got; p++) {
            Due.due("laid() against all ways", real.laid(p), least.get(0).get(p));
        }
    }

    private static void fail(String how) {
        System.out.println("a run of calls, the last of which " + how + ":");
        System.out.println(String.join("\n", told));
        System.exit(1);
    }
}
