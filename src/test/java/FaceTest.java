import java.lang.management.ManagementFactory;
import java.lang.reflect.Constructor;
import java.lang.reflect.Field;
import java.lang.reflect.Method;
import java.lang.reflect.Modifier;
import java.nio.file.Files;
import java.nio.file.Path;
import java.util.Arrays;
import java.util.HashSet;
import java.util.List;
import java.util.Set;
import java.util.TreeSet;
import java.util.regex.Matcher;
import java.util.regex.Pattern;

/** The public face as the document tells it, the rules of LANGUAGE.md that can be looked at here. */
public final class FaceTest {
    private static final Path DOCUMENT = Path.of("../shared/DOC.md");
    private static final Path PROGRAM = Path.of("src/main/java/RegularRally.java");

    public static void main(String[] args) throws Exception {
        constants();
        face();
        othersArePrivate();
        sizes();
        words();
        room();
        Due.end();
    }

    private static void constants() {
        Due.due("UNKNOWN", RegularRally.UNKNOWN, -1);
        Due.due("OUTSIDE", RegularRally.OUTSIDE, -2);
        Due.due("STATE", RegularRally.STATE, -3);
        Due.due("FULL", RegularRally.FULL, -4);
        Due.due("SPENT", RegularRally.SPENT, -6);
        Due.due("NONE", RegularRally.NONE, -9);
        Due.due("LOST", RegularRally.LOST, Long.MIN_VALUE);
    }

    private static void face() throws Exception {
        String text = Files.readString(DOCUMENT);
        Set<String> due = new TreeSet<>();
        Matcher line = Pattern.compile("(?m)^    public (int|long) (\\w+)\\((.*)\\);$").matcher(text);
        while (line.find()) {
            due.add(line.group(1) + " " + line.group(2) + "(" + typesOf(line.group(3)) + ")");
        }
        Set<String> got = new TreeSet<>();
        for (Method method : RegularRally.class.getDeclaredMethods()) {
            if (Modifier.isPublic(method.getModifiers())) {
                StringBuilder types = new StringBuilder();
                for (Class<?> type : method.getParameterTypes()) {
                    types.append(types.length() == 0 ? "" : ", ").append(type);
                }
                got.add(method.getReturnType() + " " + method.getName() + "(" + types + ")");
                Due.holds(method + " is of the object", !Modifier.isStatic(method.getModifiers()));
            }
        }
        Due.due("how many methods the document has", due.size(), 33);
        Due.holds("the methods are the document's: " + got, got.equals(due));
        Constructor<?>[] constructors = RegularRally.class.getDeclaredConstructors();
        Due.due("constructors", constructors.length, 1);
        Due.due("its parameters", constructors[0].getParameterCount(), 0);
        int modifiers = RegularRally.class.getModifiers();
        Due.holds("public and final", Modifier.isPublic(modifiers) && Modifier.isFinal(modifiers));
    }

    private static String typesOf(String parameters) {
        return parameters.replaceAll("(\\w+) \\w+", "$1");
    }

    private static void othersArePrivate() {
        List<String> constants =
            List.of("UNKNOWN", "OUTSIDE", "STATE", "FULL", "SPENT", "NONE", "LOST");
        for (Field field : RegularRally.class.getDeclaredFields()) {
            boolean isConstant = constants.contains(field.getName());
            Due.holds(field + " is public or private as told",
                isConstant ? Modifier.isPublic(field.getModifiers())
                    : Modifier.isPrivate(field.getModifiers()));
        }
        Set<String> publicNames = new HashSet<>();
        for (Method method : RegularRally.class.getDeclaredMethods()) {
            if (Modifier.isPublic(method.getModifiers())) {
                publicNames.add(method.getName());
            }
        }
        for (Method method : RegularRally.class.getDeclaredMethods()) {
            Due.holds(method + " is public or private",
                (method.getModifiers() & (Modifier.PUBLIC | Modifier.PRIVATE)) != 0);
            if (Modifier.isPrivate(method.getModifiers())) {
                Due.holds(method + " has a name of its own", !publicNames.contains(method.getName()));
            }
        }
    }

    private static void sizes() {
        Class<?>[] inside = RegularRally.class.getDeclaredClasses();
        Due.holds("some twelve classes at most", inside.length + 1 <= 13);
        sizesOf(RegularRally.class);
        for (Class<?> type : inside) {
            Due.holds(type + " is static", Modifier.isStatic(type.getModifiers()));
            Due.holds(type + " is not seen outside",
                (type.getModifiers() & (Modifier.PUBLIC | Modifier.PROTECTED)) == 0);
            sizesOf(type);
        }
    }

    private static void sizesOf(Class<?> type) {
        int fields = 0;
        for (Field field : type.getDeclaredFields()) {
            int modifiers = field.getModifiers();
            if (Modifier.isStatic(modifiers)) {
                Due.holds(field + " is final", Modifier.isFinal(modifiers));
            } else {
                fields++;
            }
        }
        Due.holds(type + " has some twenty fields at most", fields <= 22);
        for (Method method : type.getDeclaredMethods()) {
            Due.holds(method + " takes at most seven", method.getParameterCount() <= 7);
        }
    }

    private static void words() throws Exception {
        String text = Files.readString(PROGRAM);
        String code = text.replaceAll("(?s)/\\*.*?\\*/", "").replaceAll("//[^\n]*", "");
        List<String> ruledOut = List.of("\\bthrow\\b", "\\btry\\b", "\\bcatch\\b",
            "\\bimport\\b(?! java\\.util\\.(ArrayList|List|Arrays|Iterator|\\*);)",
            "\\bpackage\\b", "\\bsynchronized\\b", "\\bassert\\b", "::", "Exact\\b",
            "\\bSystem\\.(?!arraycopy)", "boolean equals\\(", "int hashCode\\(", "String toString\\(");
        for (String word : ruledOut) {
            Due.holds("the program goes without " + word, !Pattern.compile(word).matcher(code).find());
        }
        String withoutArrowCases = code.replaceAll("(?m)^ *(case [^;{}]*?|default) ->", "");
        Due.holds("the program goes without lambdas", !withoutArrowCases.contains("->"));
        Due.holds("signs 1 to 127 alone", code.chars().allMatch(c -> c >= 1 && c <= 127));
        Matcher method = Pattern.compile("(?ms)^( {2}| {4}| {8})(?! |if|for|while|switch)[\\w\\[\\]. ]+"
            + "\\([^;{}]*\\) \\{\\n(.*?)^\\1\\}$").matcher(code);
        int methods = 0;
        while (method.find()) {
            methods++;
            long lines = method.group(2).lines().count();
            Due.holds("methods stay short: " + method.group(), lines <= 65);
        }
        Due.holds("methods were looked at: " + methods, methods > 33);
    }

    /** A run lives in a room of some 7.3 million fields and elements, most of them of four bytes. */
    private static void room() {
        long room = 4 * 7_300_000L;
        long ofObject = made(FaceTest::newObjects);
        Due.holds("512 new objects make " + ofObject + " bytes", ofObject < room);
        long ofCalls = made(FaceTest::dearCalls);
        Due.holds("dear calls make " + ofCalls + " bytes", ofCalls < room);
    }

    private static void newObjects() {
        RegularRally[] kept = new RegularRally[512];
        Arrays.setAll(kept, k -> new RegularRally());
    }

    private static void dearCalls() {
        RegularRally x = new RegularRally();
        for (int r = 0; r < 16; r++) {
            x.road(r % 4, (r + 1) % 4, 5, r % 3);
        }
        for (int car = 0; car < 8; car++) {
            x.car(0, car % 3);
        }
        x.sheet(0, 0, 2);
        x.put(0, 1, 3);
        x.book(0, 0, 0, 2);
        for (int k = 0; k < 120; k++) {
            x.lay();
            x.speed(0, 5);
            x.control(1);
            x.sheet(1, 2, 32);
        }
    }

    private static long made(Runnable calls) {
        var threads = (com.sun.management.ThreadMXBean) ManagementFactory.getThreadMXBean();
        // the first round makes what the machine itself needs
        calls.run();
        long before = threads.getCurrentThreadAllocatedBytes();
        calls.run();
        return threads.getCurrentThreadAllocatedBytes() - before;
    }
}
