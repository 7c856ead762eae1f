/** What the document says of all calls, refusals and faults: a test for each sentence. */
public final class RefusalSentencesTest {
    /** A rally on its first day: a way of 50 metres, a control, a car, sheet 3 of ints. */
    private static final String SMALL = "timed(50); control(10) 0; car(0, 0) 0;";

    public static void main(String[] args) {
        Sentences calls = Sentences.between("proofs of a wrong way.\n", "## The public face");
        calls.test("An object is used for at most 512 calls after it has been made; what later calls answer is free.",
            RefusalSentencesTest::allCallsAnswer);
        calls.end();
        Sentences terms = Sentences.between("## Terms\n", "==== 1 THE MAP");
        refusals(terms);
        refusedChangesNothing(terms);
        faults(terms);
        faultyChangesNothing(terms);
        terms.test("NONE is -9.", """
            way(5); road(0, 1, 5, 0); about(1, 5) -9; about(0, 5) 0; spots(1, 0, 1, 0); lay() -9; ways() 0
            """);
        terms.test("Quotients are cut toward 0.", """
            way(50); control(10); watch(0, 0, 10, 30, 33) 1; right(0, 29) -3; right(0, 31) 3; right(0, 28) -6
            watch(0, 5, 6, 30, 40) 1; right(0, 21) 5; right(0, 20) 4; right(0, 39) 5; speed(0, 999); due(4) 2
            car(0, 1); clock(0, 0, 530); points(0, 0) 2; lay(); speed(0, 600); control(10); clock(0, 0, 21)
            error(0, 0) 11; points(0, 0) 1
            """);
        terms.end();
        Due.end();
    }

    /** The last of 512 calls answers as the first. */
    private static void allCallsAnswer() {
        Run.of("road(0, 1, 5, 0)").times(510, "tell(0) 5").then("trace() 1242208224");
        Run.of("").times(4, "sheet(#, 2, 32)").times(508, "put(3, 31, #) 1");
        Run.of(Maps.SPENDING + "spots(0, 9)").times(490, "ways() -6");
        Run.of("spots(0, 1); road(0, 1, 5, 0) 0").times(250, "lay() 1; control(5) 0");
        Run.of("timed(8)").times(8, "car(0, 0) #; control(1#) -2").times(240, "lay() 1; result(0, 9) -2");
    }

    private static void refusals(Sentences terms) {
        terms.test("REFUSALS: UNKNOWN (there is no such SPOT, ROAD, CONTROL, CAR, SHEET, place)", SMALL + """
            road(0, 10, 5, 0) -1; road(-1, 0, 5, 0) -1; shut(1, true) -1; wet(1, true) -1; about(1, 0) -1; tell(1) -1
            watch(1, 0, 1, 0, 1) -1; strike(1, true) -1; clock(0, 1, 5) -1; allow(0, 1, 5) -1; points(0, 1) -1
            clock(1, 0, 5) -1; allow(1, 0, 5) -1; points(1, 0) -1; result(1, 0) -1; greet(1) -1; as(1, 0) -1
            sheet(4, 0, 1) -1; lose(4) -1; put(4, 0, 1) -1; copy(4, 0, 3, 0, 1) -1; copy(3, 0, 4, 0, 1) -1
            book(4, 2, 0, 2) -1; laid(1) -1; laid(-1) -1
            """);
        terms.test("OUTSIDE (another number is not as told)", SMALL + """
            road(0, 0, 5, 0) -2; road(0, 1, 0, 0) -2; road(0, 1, 5, 3) -2; about(0, 6) -2; book(3, 3, 0, 2) -2
            book(3, 2, 0, 1) -2; speed(0, 0) -2; speed(51, 5) -2; roadAt(51) -2; control(0) -2
            watch(0, 1, 1, 0, 1) -2; car(-1, 0) -2; car(0, 3) -2; clock(0, 0, -1) -2; allow(0, 0, 3001) -2
            result(0, 4) -2; sheet(0, 3, 1) -2; sheet(0, 0, 33) -2; as(0, 3) -2; told(8) -2
            """);
        terms.test("STATE (as told)", () -> {
            Run.of("ways() -3; lay() -3; speed(0, 5) -3; roadAt(0) -3; control(1) -3; car(0, 0) 0; result(0, 0) -3");
            Run.of(SMALL + "control(10) -3; clock(0, 0, 5) 1; clock(0, 0, 5) -3; lay(); control(10); points(0, 0) -3");
        });
        terms.test("FULL", () -> Run.of("").times(16, "road(0, 1, 9, 0) #").then("spots(0, 1); lay() 1")
            .times(8, "speed(0, 5); control(1#) -2; car(0, 0) #").times(8, "control(#)").then("control(8) 7")
            .then("road(0, 1, 5, 0) -4; speed(0, 5) -4; car(0, 0) -4; control(9) -4"));
        terms.test("SPENT (-6: as told)", Maps.SPENDING + "spots(0, 9); ways() -6; lay() -6; spots(0, 1); ways() 1");
        terms.test("of several the first in the order in which a call's line tells them.",
            RefusalSentencesTest::firstInOrder);
    }

    private static void firstInOrder() {
        Run.of("""
            speed(-1, 0) -2; speed(-1, 5) -3; roadAt(-1) -3; control(0) -3; result(0, 9) -1; car(0, 0)
            result(0, 9) -2; result(0, 0) -3; clock(0, 0, -1) -1; allow(0, 0, -1) -1; points(0, 0) -1
            about(0, 9) -1; wet(0, true) -1; watch(0, 1, 0, 1, 0) -1; proof(4, 3, 0, -1) LOST; fault() 0
            proof(0, 3, 0, -1) LOST; fault() 0; proof(0, 0, 0, -1) LOST; fault() 0
            """);
        Run.of("").times(16, "road(0, 1, 99, 0) #").then("spots(0, 1); lay() 1").times(8, "car(0, #) ")
            .then("car(0, 0); car(0, 0); car(0, 0); car(0, 0); car(0, 0); told(5) 8")
            .times(8, "control(1#) #; speed(0, 5)").then("""
            road(0, 10, 0, 3) -1; road(10, 10, 5, 0) -1; road(1, 1, 5, 0) -2; road(0, 1, 0, 0) -2
            road(0, 1, 5, 3) -2; road(0, 1, 5, 0) -4; car(-1, 0) -2; car(0, 3) -2; car(0, 0) -4
            speed(-1, 0) -2; speed(-1, 5) -2; speed(0, 5) -4; control(0) -2; control(100) -2; control(11) -3
            control(20) -4; clock(8, 0, -1) -1; clock(0, 8, -1) -1; clock(0, 0, 5) 1; clock(0, 0, -1) -2
            clock(0, 0, 5) -3; as(8, 9) -1; as(0, 9) -2; as(0, 2) -12; wet(16, true) -1; wet(0, true) -12
            """);
        Run.of("""
            sheet(4, 3, -1) -1; sheet(0, 3, -1) -2; sheet(0, 0, -1) -14; put(4, -1, 0) -1; put(0, -1, 0) -11
            book(4, 3, -1, -1) -1; book(0, 3, -1, -1) -2; book(0, 0, -1, -1) -11; row(0, 0, 5, 5, 10)
            book(0, 1, -1, -1) -12; book(0, 0, -1, -1) -14; book(0, 0, -1, 2) -13; book(0, 0, 0, 9) -13
            book(0, 0, 0, 1) -2; book(0, 0, 0, 2) -2; copy(4, -1, 1, -1, -1) -1; copy(0, -1, 4, -1, -1) -1
            copy(0, -1, 1, -1, -1) -11; row(1, 1, 5); copy(0, -1, 1, -1, -1) -12; copy(0, -1, 0, 0, 1) -13
            """);
    }

    private static void stay(Stand stand, String... calls) {
        for (String call : calls) {
            stand.stays(call);
        }
    }

    private static void refusedChangesNothing(Sentences terms) {
        terms.test("They change nothing (but fault(), of a call that names FAULTS", () -> {
            stay(Stand.full(),
                "road(10, 1, 5, 0) -1", "road(0, 0, 5, 0) -2", "road(0, 1, 5, 3) -2", "road(0, 1, 5, 0) -4",
                "shut(16, true) -1", "about(0, 6) -2", "about(16, 0) -1", "laid(4) -1", "speed(0, 0) -2",
                "speed(1001, 5) -2", "speed(0, 5) -4", "due(1001) LOST", "roadAt(1001) -2", "control(0) -2",
                "control(500) -3", "control(600) -4", "watch(8, 0, 1, 0, 1) -1", "watch(1, 1, 1, 0, 1) -2",
                "right(8, 5) LOST", "right(1, -1) LOST", "strike(8, true) -1", "car(-1, 0) -2", "car(0, 3) -2",
                "car(0, 0) -4", "clock(8, 0, 5) -1", "clock(0, 8, 5) -1", "clock(0, 2, -1) -2",
                "clock(0, 1, 5) -3", "allow(8, 0, 5) -1", "allow(0, 8, 5) -1", "allow(0, 1, 3001) -2",
                "allow(0, 1, -1) -2", "error(0, 2) LOST", "error(0, 8) LOST", "points(0, 8) -1",
                "result(8, 0) -1", "result(0, 4) -2", "lose(4) -1", "tell(16) -1", "greet(8) -1", "told(8) -2");
            stay(Stand.withoutBook(), "ways() -3", "lay() -3");
            stay(Stand.withoutWay(), "speed(0, 5) -3", "due(0) LOST", "roadAt(0) -3", "control(1) -3", "laid(0) -1");
            stay(Stand.withoutSpeed(), "due(0) LOST", "error(0, 1) LOST", "points(0, 1) -3", "result(0, 0) -3");
            String[] namingFaults = {
                "wet(16, true) -1", "book(4, 2, 0, 2) -1", "book(3, 3, 0, 2) -2", "book(3, 2, 0, 1) -2",
                "book(1, 1, 0, 2) -2", "proof(4, 2, 0, 2) LOST", "proof(3, 3, 0, 2) LOST", "sheet(4, 0, 1) -1",
                "sheet(0, 3, 1) -2", "sheet(0, 0, 33) -2", "put(4, 0, 5) -1", "cell(4, 0, 0) LOST",
                "cell(0, 0, 3) LOST", "copy(4, 0, 0, 0, 1) -1", "copy(0, 0, 4, 0, 1) -1", "as(8, 0) -1",
                "as(0, 3) -2",
            };
            for (String call : namingFaults) {
                Stand.full().staysButFault(call, 0);
            }
            Stand.withoutBook().staysButFault("proof(0, 0, 0, 4) LOST", 0);
        });
        terms.test("told(7), by what is SPENT)", () -> {
            Run.of(Maps.SPENDING).then("spots(0, 1); lay() 1; told(7) 6; spots(0, 9); told(7) 6; ways() -6; told(7) 60000")
                .then("spots(0, 1); ways() 1; told(7) 6; spots(0, 9); lay() -6; told(7) 60000");
            Stand.spending().staysButTrials("ways() -6");
            Stand.spending().staysButTrials("lay() -6");
        });
    }

    private static void faults(Sentences terms) {
        terms.test("FAULTS are the machine's: 1 NULL (there is nothing)", """
            spots(0, 1); put(0, 0, 1) -11; fault() 1; book(0, 0, 0, 2) -11; fault() 1; cell(0, 0, 0) LOST; fault() 1
            proof(0, 0, 0, 1) LOST; fault() 1; copy(0, 0, 3, 0, 1) -11; fault() 1; copy(3, 0, 0, 0, 1) -11; fault() 1
            """);
        terms.test("2 CAST (it is of another LANE, kind)", """
            road(0, 1, 5, 1); car(0, 1); spots(0, 1); row(0, 0, 0, 1); wet(0, true) -12; fault() 2; as(0, 2) -12; fault() 2
            book(0, 1, 0, 2) -12; fault() 2; proof(0, 2, 0, 1) LOST; fault() 2; cell(0, 0, 1) LOST; fault() 2
            copy(0, 0, 3, 0, 1) -12; fault() 2
            """);
        terms.test("3 INDEX", """
            spots(0, 1); put(3, 2, 1) -13; fault() 3; book(3, 2, 1, 2) -13; fault() 3; cell(3, -1, 2) LOST; fault() 3
            proof(3, 2, 2, 1) LOST; fault() 3; copy(3, 0, 3, 1, 2) -13; fault() 3
            """);
        terms.test("4 SIZE (a length below 0)", """
            spots(0, 1); sheet(0, 0, -1) -14; fault() 4; book(3, 2, 0, -1) -14; fault() 4; proof(3, 2, 0, -1) LOST
            fault() 4; sheet(0, 0, 0) 1; proof(3, 2, 0, 0) -100
            """);
        terms.test("Of a call the first that is come to, in the order told", """
            row(0, 0, 0, 1); row(1, 1, 0, 1); book(0, 1, -1, -1) -12; book(2, 1, -1, -1) -11; book(0, 0, -1, -1) -14
            book(0, 0, -1, 1) -13; spots(0, 1); proof(0, 1, -1, -1) LOST; fault() 2; proof(2, 1, -1, -1) LOST; fault() 1
            proof(0, 0, -1, -1) LOST; fault() 4; proof(0, 0, -1, 1) LOST; fault() 3; cell(0, -1, 1) LOST; fault() 2
            cell(2, -1, 1) LOST; fault() 1; cell(0, -1, 0) LOST; fault() 3; put(2, -1, 0) -11
            copy(1, -1, 2, -1, -1) -11; copy(2, -1, 1, -1, -1) -11; copy(0, -1, 1, -1, -1) -12
            copy(0, -1, 0, -1, -1) -13
            """);
        terms.test("it answers -10 less it", """
            car(0, 0); sheet(0, 0, 1) 1; put(1, 0, 0) -11; as(0, 1) -12; put(0, 1, 0) -13; sheet(1, 0, -1) -14
            """);
        terms.test("(LOST, where a long is answered, as for refusals)", """
            spots(0, 1); cell(0, 0, 0) LOST; cell(3, 0, 0) LOST; cell(3, 2, 2) LOST; proof(0, 0, 0, 1) LOST
            proof(3, 0, 0, 1) LOST; proof(3, 2, 2, 1) LOST; proof(3, 2, 0, -1) LOST; cell(4, 0, 0) LOST
            proof(4, 0, 0, 1) LOST; due(0) LOST; right(0, 0) LOST; error(0, 0) LOST
            """);
    }

    private static void faultyChangesNothing(Sentences terms) {
        terms.test("and changes nothing", () -> {
            String[][] callsOfFaults = {
                {"put(2, 0, 5) -11", "book(2, 0, 0, 2) -11", "proof(2, 0, 0, 2) LOST", "cell(2, 0, 0) LOST",
                    "copy(2, 0, 0, 0, 1) -11", "copy(0, 0, 2, 0, 1) -11"},
                {"wet(0, true) -12", "wet(1, true) -12", "book(3, 1, 0, 2) -12", "proof(0, 1, 0, 4) LOST",
                    "cell(0, 0, 1) LOST", "copy(0, 0, 3, 0, 1) -12", "as(0, 1) -12", "as(1, 2) -12"},
                {"put(0, 4, 5) -13", "put(0, -1, 5) -13", "book(3, 2, 2, 2) -13", "proof(0, 0, 1, 4) LOST",
                    "cell(0, 4, 0) LOST", "copy(0, 1, 0, 0, 4) -13", "copy(0, 0, 0, 1, 4) -13"},
                {"sheet(0, 0, -1) -14", "sheet(2, 0, -1) -14", "book(3, 2, 0, -1) -14", "proof(0, 0, 0, -1) LOST"},
            };
            for (int f = 0; f < callsOfFaults.length; f++) {
                for (String call : callsOfFaults[f]) {
                    Stand.full().staysButFault(call, f + 1);
                }
            }
        });
        terms.test("fault() tells it.", """
            car(0, 0); spots(0, 1); put(0, 0, 0) -11; fault() 1; as(0, 1) -12; fault() 2; put(3, 2, 0) -13; fault() 3
            sheet(1, 0, -1) -14; fault() 4; cell(0, 0, 0) LOST; fault() 1; cell(3, 0, 0) LOST; fault() 2
            cell(3, 2, 2) LOST; fault() 3; proof(3, 2, 0, -1) LOST; fault() 4
            """);
    }
}
