import java.util.LinkedHashMap;
import java.util.Map;

/**
 * A rally with as much of all as there may be, and all that can be asked of it: so it is seen that
 * a call changes nothing. The state is asked for on objects of their own, with the call and
 * without it, since what is asked changes some of it, too.
 */
final class Stand {
    /** 16 roads; the least way has four of them, 1000 metres; road 14 is wet, road 15 is shut. */
    private static final String MAP = """
        road(0, 1, 100, 0) 0; road(1, 2, 200, 1) 1; road(2, 3, 300, 2) 2; road(3, 4, 400, 0) 3
        road(0, 2, 350, 0) 4; road(1, 3, 700, 1) 5; road(4, 5, 10, 2) 6; road(5, 6, 20, 0) 7
        road(6, 7, 30, 1) 8; road(7, 8, 40, 2) 9; road(8, 9, 50, 0) 10; road(9, 4, 60, 1) 11
        road(5, 7, 70, 2) 12; road(4, 6, 80, 0) 13; road(0, 4, 90, 2) 14; road(1, 4, 95, 1) 15
        wet(14, true) 1; shut(15, true) 1; row(0, 0, 0, 1, 2, 3); row(1, 1, 5, -6, 7, 0, 300)
        row(3, 2, 0, 2, 4)
        """;
    private static final String CARS = """
        car(0, 0) 0; car(10, 1) 1; car(20, 2) 2; car(30, 0) 3
        car(40, 1) 4; car(50, 2) 5; car(60, 0) 6; car(70, 1) 7
        """;
    private static final String BOOK = "spots(0, 2, 4);";
    private static final String WAY = "lay() 4; told(2) 1000;";
    private static final String SPEEDS = """
        speed(0, 600) 1; speed(100, 300) 2; speed(300, 450) 3; speed(500, 77) 4
        speed(700, 900) 5; speed(100, 310) 6; speed(900, 1200) 7; speed(950, 60) 8
        """;
    private static final String DRIVE = """
        control(500) 0; control(100) 1; control(300) 2; control(700) 3
        control(900) 4; control(1000) 5; control(950) 6; control(200) 7
        watch(1, 0, 1000, 10, 900) 1; watch(3, 50, 90000, 0, 100000) 1; strike(2, true) 1
        clock(0, 1, 130) 1; clock(0, 0, 900) 1; clock(0, 7, 500) 1; clock(0, 3, 6000) 1
        clock(1, 3, 3000) 1; clock(1, 1, 90) 1; clock(1, 2, 700) 1; clock(2, 5, 4000) 1
        clock(2, 4, 3500) 1; clock(2, 6, 3600) 1; clock(3, 2, 800) 1; clock(3, 1, 500) 1
        allow(0, 1, 5) 0; allow(0, 2, 700) 0; allow(1, 3, 3000) 0; allow(2, 5, 9) 0; allow(3, 2, 1) 0
        """;
    private static final String LAST = "tell(2) 300; greet(1) 7; put(0, -1, 0) -13;";

    private final String calls;

    private Stand(String calls) {
        this.calls = calls;
    }

    static Stand full() {
        return new Stand(MAP + CARS + BOOK + WAY + SPEEDS + DRIVE + LAST);
    }

    static Stand withoutBook() {
        return new Stand(MAP + CARS + LAST);
    }

    static Stand withoutWay() {
        return new Stand(MAP + CARS + BOOK + "ways() 1;" + LAST);
    }

    /** No speed from place 0 on. */
    static Stand withoutSpeed() {
        return new Stand(MAP + CARS + BOOK + WAY + "speed(100, 300) 1;" + DRIVE + LAST);
    }

    /** The way that was laid is open no more, and there is no other. */
    static Stand cutOff() {
        return new Stand(MAP + CARS + BOOK + WAY + SPEEDS + DRIVE + LAST + "shut(3, true) 1");
    }

    /** A map on which the search for the book, as it is now, is spent. */
    static Stand spending() {
        return new Stand(Maps.SPENDING + "row(0, 0, 0, 1, 2, 3);" + CARS + """
            spots(0, 1, 2, 3, 4); lay() 4; speed(0, 600) 1; speed(2, 60) 2
            control(3) 0; control(1) 1; control(4) 2; watch(1, 0, 10, 3, 70) 1; strike(2, true) 1
            clock(0, 1, 7) 1; clock(0, 0, 99) 1; clock(1, 2, 60) 1; allow(0, 0, 8) 0; spots(0, 9)
            tell(1) 1; put(0, -1, 0) -13
            """);
    }

    /** The call changes nothing at all. */
    void stays(String call) {
        compare(call, askedOf(Run.of(calls)));
    }

    /** The call changes nothing, but that fault() is as told. */
    void staysButFault(String call, long fault) {
        Map<String, Long> due = askedOf(Run.of(calls));
        due.put("fault()", fault);
        compare(call, due);
    }

    /** The call changes nothing but told(7). */
    void staysButTrials(String call) {
        Map<String, Long> due = askedOf(Run.of(calls));
        due.remove("told(7)");
        compare(call, due);
    }

    private void compare(String call, Map<String, Long> due) {
        Map<String, Long> got = askedOf(Run.of(calls).then(call));
        for (String asked : due.keySet()) {
            Due.due(asked + " behind " + call, got.get(asked), due.get(asked));
        }
    }

    private static Map<String, Long> askedOf(Run run) {
        Map<String, Long> answers = new LinkedHashMap<>();
        ask(run, answers, "fault()", "trace()");
        askEach(run, answers, "told(#)", 8);
        askEach(run, answers, "cell(3, #, 2)", 4);
        askEach(run, answers, "cell(0, #, 0)", 5);
        askEach(run, answers, "cell(1, #, 1)", 6);
        ask(run, answers, "proof(0, 0, 0, 4)", "lose(2)");
        askEach(run, answers, "laid(#)", 5);
        for (int what : new int[] {0, 2, 3, 4, 5}) {
            askEach(run, answers, "about(#, " + what + ")", 16);
        }
        if (run.answer("told(1)") > 0 && run.answer("due(0)") == Long.MIN_VALUE) {
            // without a speed from 0 on nothing is told of the cars
            ask(run, answers, "speed(0, 600)");
        }
        for (int place : new int[] {0, 1, 99, 100, 101, 300, 500, 700, 901, 1000}) {
            ask(run, answers, "due(" + place + ")", "roadAt(" + place + ")");
        }
        askEach(run, answers, "right(#, 1000)", 8);
        for (int car = 0; car < 8; car++) {
            askEach(run, answers, "error(" + car + ", #)", 8);
            askEach(run, answers, "result(" + car + ", #)", 4);
            ask(run, answers, "greet(" + car + ")");
        }
        askWhatChanges(run, answers);
        return answers;
    }

    /** Questions that are answered by what was, and change it. */
    private static void askWhatChanges(Run run, Map<String, Long> answers) {
        askEach(run, answers, "strike(#, false)", 8);
        for (int car = 0; car < 4; car++) {
            askEach(run, answers, "allow(" + car + ", #, 0)", 8);
        }
        askEach(run, answers, "wet(#, false)", 16);
        askEach(run, answers, "shut(#, false)", 16);
        ask(run, answers, "ways()");
        answers.put("told(7) of the book", run.answer("told(7)"));
    }

    private static void ask(Run run, Map<String, Long> answers, String... calls) {
        for (String call : calls) {
            answers.put(call, run.answer(call));
        }
    }

    private static void askEach(Run run, Map<String, Long> answers, String call, int count) {
        for (int k = 0; k < count; k++) {
            ask(run, answers, call.replace("#", String.valueOf(k)));
        }
    }
}
