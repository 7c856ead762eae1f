/** Promises 6 to 10, the book, the way that is laid, proofs, and 34: a test for each sentence. */
public final class SearchSentencesTest {
    public static void main(String[] args) {
        book(Sentences.ofPromise(6));
        ways(Sentences.ofPromise(7));
        lay(Sentences.ofPromise(8));
        laid(Sentences.ofPromise(9));
        proof(Sentences.ofPromise(10));
        told(Sentences.ofPromise(34));
        Due.end();
    }

    private static void book(Sentences promise) {
        promise.test("THE BOOK becomes cells i .. i + n - 1 of a SHEET", """
            road(0, 1, 5, 1); road(1, 2, 6, 1); row(2, 2, 9, 0, 1, 2, 9); book(2, 2, 1, 2) 2; lay() 1
            laid(0) 0; book(2, 2, 2, 2) 2; lay() 1; laid(0) 1; book(2, 2, 1, 3) 3; lay() 2
            put(2, 1, 7) 1; ways() 1; lose(2) 1; ways() 1; told(6) 3
            row(0, 2, 0, 1); book(0, 2, 0, 2) 2; told(6) 2
            """);
        promise.test("taken as a row of a LANE: n.", () -> {
            for (int lane = 0; lane <= 2; lane++) {
                Run.of("road(1, 2, 5, 1)").then(("row(1, #, 0, 1, 2, 3, 4, 5, 6, 7); book(1, #, 0, 8) 8;"
                    + "fault() 0; told(6) 8; book(1, #, 1, 2) 2; fault() 0; told(6) 2; ways() 1")
                    .replace("#", String.valueOf(lane)));
            }
        });
        promise.test("UNKNOWN: SHEET", """
            spots(0, 1, 2); book(4, 2, 0, 2) -1; book(-1, 2, 0, 2) -1; book(MAX, 2, 0, 2) -1
            book(MIN, 2, 0, 2) -1; book(4, 3, -1, -1) -1; fault() 0; told(6) 3
            """);
        promise.test("OUTSIDE: lane", """
            spots(0, 1, 2); book(3, 3, 0, 2) -2; book(3, -1, 0, 2) -2; book(3, MAX, 0, 2) -2
            book(3, MIN, 0, 2) -2; book(0, 3, 0, 2) -2; book(3, 3, -1, -1) -2; fault() 0; told(6) 3
            """);
        promise.test("CAST (nothing is no CAST)", """
            row(0, 0, 0, 1, 2); row(1, 1, 0, 1, 2); row(2, 2, 0, 1, 2)
            book(0, 1, 0, 2) -12; book(0, 2, 0, 2) -12; fault() 2; book(1, 0, 0, 2) -12
            book(1, 2, 0, 2) -12; book(2, 0, 0, 2) -12; book(2, 1, 0, 2) -12; fault() 2; told(6) 0
            book(0, 1, -1, -1) -12; book(0, 1, 9, 9) -12; book(3, 0, 0, 2) -11; fault() 1
            sheet(0, 0, 0) 1; book(0, 2, 0, 0) -12
            """);
        promise.test("NULL", """
            spots(0, 1, 2); book(0, 0, 0, 2) -11; fault() 1; book(0, 1, 0, 2) -11; book(0, 2, 0, -1) -11
            book(0, 2, -1, 2) -11; lose(3) 1; book(3, 2, 0, 2) -11; fault() 1; told(6) 3
            """);
        promise.test("SIZE: n below 0", """
            spots(0, 1, 2); book(3, 2, 0, -1) -14; fault() 4; book(3, 2, 0, MIN) -14
            book(3, 2, -1, -1) -14; book(3, 2, 9, -1) -14; fault() 4; told(6) 3; book(3, 2, 0, 0) -2
            """);
        promise.test("INDEX", """
            spots(0, 1, 2); book(3, 2, -1, 2) -13; fault() 3; book(3, 2, 2, 2) -13; book(3, 2, 0, 4) -13
            book(3, 2, MAX, 2) -13; book(3, 2, MIN, 2) -13; book(3, 2, 1, MAX) -13
            book(3, 2, MAX, MAX) -13; book(3, 2, -1, 0) -13; book(3, 2, 4, 0) -13; book(3, 2, 0, 9) -13
            fault() 3; told(6) 3; book(3, 2, 3, 0) -2; fault() 0; book(3, 2, 1, 2) 2
            """);
        promise.test("then OUTSIDE: n is not 2 .. 8", """
            row(0, 0, 0, 1, 2, 3, 4, 5, 6, 7, 8, 9); book(0, 0, 0, 1) -2; book(0, 0, 0, 0) -2
            book(0, 0, 0, 9) -2; book(0, 0, 0, 10) -2; fault() 0; told(6) 0
            book(0, 0, 8, 2) 2; book(0, 0, 2, 8) 8; book(0, 0, 0, 9) -2; told(6) 8
            """);
        promise.test("a SPOT", """
            row(0, 2, -1, 0, 10, 9, MAX, 3, MIN, 4); book(0, 2, 0, 2) -2; book(0, 2, 1, 2) -2
            book(0, 2, 2, 2) -2; book(0, 2, 3, 3) -2; book(0, 2, 5, 3) -2; fault() 0; told(6) 0
            row(1, 0, 0, 9, 256, 265); book(1, 0, 0, 2) 2; book(1, 0, 0, 4) 4
            """);
        promise.test("two next to one another alike.", """
            row(0, 0, 5, 5, 4, 3, 3, 4); book(0, 0, 0, 2) -2; book(0, 0, 0, 3) -2; book(0, 0, 2, 3) -2
            book(0, 0, 1, 4) -2; fault() 0; told(6) 0; book(0, 0, 1, 3) 3; book(0, 0, 4, 2) 2
            """);
        promise.end();
    }

    private static void ways(Sentences promise) {
        promise.test("How many ways there are of the least sum (THE LEAST WAY and RIVALS)", """
            road(0, 1, 5, 0); spots(0, 1); ways() 1; road(0, 1, 5, 2); ways() 2; road(0, 1, 5, 1); ways() 3
            road(0, 2, 2, 0); road(2, 1, 3, 0); ways() 4; road(0, 1, 6, 0); ways() 4
            road(0, 1, 4, 0); ways() 1; spots(0, 1, 0); ways() 7
            """);
        promise.test("as the MAP is now.", """
            road(0, 1, 5, 0); road(0, 1, 5, 2); road(0, 1, 6, 0); spots(0, 1); lay() 1; ways() 2
            shut(0, true); ways() 1; wet(1, true); ways() 1; shut(2, true); ways() 0; wet(1, false); ways() 1
            shut(0, false); ways() 2; road(0, 1, 4, 1); ways() 1; laid(0) 0
            """);
        promise.test("STATE: there is no BOOK", """
            ways() -3; road(0, 1, 5, 0); ways() -3; row(0, 0, 0, 0); book(0, 0, 0, 2) -2; ways() -3
            told(7) 0; spots(0, 1); ways() 1
            """);
        promise.test("SPENT", Maps.SPENDING + """
            spots(0, 9); ways() -6; told(7) 60000; told(1) 0; spots(0, 1); ways() 1
            """);
        promise.test("0: no WAY PASSES it.", """
            spots(0, 1); ways() 0; told(7) 0; road(2, 1, 5, 0); ways() 0; road(0, 2, 5, 0); ways() 1
            spots(0, 1, 0); ways() 0; shut(0, true); spots(0, 1); ways() 0
            """);
        promise.end();
    }

    private static void lay(Sentences promise) {
        promise.test("THE LEAST WAY is laid", """
            road(0, 1, 10, 0); road(0, 2, 4, 0); road(2, 1, 5, 0); road(0, 2, 4, 0); spots(0, 1); lay() 2
            laid(0) 1; laid(1) 2; told(1) 2; told(2) 9; roadAt(8) 2
            """);
        promise.test("as the MAP is now", """
            road(0, 1, 10, 0); road(0, 1, 11, 2); road(0, 1, 12, 0); spots(0, 1); lay() 1; laid(0) 0
            shut(0, true); laid(0) 0; lay() 1; laid(0) 1; wet(1, true); laid(0) 1; lay() 1; laid(0) 2
            road(0, 1, 9, 0); laid(0) 2; lay() 1; laid(0) 3; shut(3, true); shut(0, false); lay() 1; laid(0) 0
            """);
        promise.test("in place of the one that was", """
            road(0, 1, 10, 0); road(1, 2, 10, 0); road(0, 2, 30, 0); spots(0, 2); lay() 2; told(2) 20
            shut(0, true); lay() 1; laid(0) 2; laid(1) -1; told(1) 1; told(2) 30
            about(0, 5) -9; about(1, 5) -9; about(2, 5) 0; roadAt(30) 2; shut(0, false); lay() 2
            told(2) 20; roadAt(21) -2
            """);
        promise.test("how many ROADS.", () -> {
            Run.of("road(0, 1, 5, 0); spots(0, 1); lay() 1; spots(1, 0); lay() 1");
            Run.of(Maps.RING).then("spots(0, 2); lay() 2; spots(0, 9); lay() 9; spots(0, 9, 0); lay() 10");
        });
        promise.test("SPEEDS and CONTROLS go", """
            timed(100); speed(50, 60) 2; control(50) 0; control(60) 1; watch(0, 0, 10, 0, 100) 1
            strike(1, true) 1; car(0, 0) 0; lay() 1; told(3) 0; told(4) 0; due(0) LOST; right(0, 5) LOST
            strike(1, false) -1; clock(0, 0, 5) -1; told(5) 1; told(6) 2; speed(0, 600) 1; due(100) 100
            control(60) 0; control(50) 1; right(0, 77) 77; strike(1, false) 0
            """);
        promise.test("and what CARS were CLOCKED at", """
            timed(100); control(50) 0; control(60) 1; car(1, 0) 0; clock(0, 1, 70) 1; clock(0, 0, 60) 1
            result(0, 3) 1; lay() 1; speed(0, 600) 1; control(50) 0; control(60) 1
            error(0, 0) LOST; points(0, 0) 300; result(0, 2) 2; result(0, 3) 0
            clock(0, 0, 61) 1; clock(0, 1, 61) 1; error(0, 0) 10; error(0, 1) 0; result(0, 3) 0
            """);
        promise.test("claimed.", """
            timed(100); control(50) 0; control(60) 1; car(0, 0) 0; allow(0, 0, 10) 0; allow(0, 1, 20) 0
            lay() 1; speed(0, 600) 1; control(50) 0; control(60) 1; clock(0, 1, 160) 1; error(0, 1) 100
            allow(0, 0, 0) 0; allow(0, 1, 0) 0
            """);
        promise.test("STATE: there is no BOOK", """
            lay() -3; road(0, 1, 5, 0); lay() -3; told(1) 0; told(7) 0; spots(0, 1); lay() 1
            """);
        promise.test("SPENT", () -> {
            Run.of(Maps.SPENDING).then("spots(0, 9); lay() -6; told(7) 60000; told(1) 0; laid(0) -1");
            Stand.spending().staysButTrials("lay() -6");
        });
        promise.test("NONE: no WAY PASSES it (all stays as it was).", () -> {
            Run.of("spots(0, 1); lay() -9; told(1) 0; laid(0) -1; road(1, 0, 5, 1); lay() -9; told(1) 0");
            Stand.cutOff().staysButTrials("lay() -9");
        });
        promise.end();
    }

    private static void laid(Sentences promise) {
        promise.test("ROAD i of THE WAY LAID.", """
            road(5, 6, 7, 0); road(2, 6, 5, 0); road(1, 2, 3, 0); spots(1, 5); lay() 3
            laid(0) 2; laid(1) 1; laid(2) 0; shut(1, true); laid(1) 1; ways() 0; laid(2) 0
            """);
        promise.test("UNKNOWN.", """
            laid(0) -1; way(5); laid(0) 0; laid(1) -1; laid(-1) -1; laid(MAX) -1; laid(MIN) -1
            road(1, 2, 5, 0); road(2, 3, 5, 0); laid(1) -1; spots(0, 3); lay() 3; laid(2) 2; laid(3) -1
            spots(0, 1); lay() 1; laid(1) -1; laid(2) -1
            """);
        promise.end();
    }

    private static void proof(Sentences promise) {
        proofSums(promise);
        proofPlaces(promise);
        proofRefusals(promise);
        promise.end();
    }

    private static void proofSums(Sentences promise) {
        promise.test("Whether a row of ROADS (cells of a SHEET, as book()) is a WAY that PASSES THE BOOK", """
            road(0, 1, 5, 1); road(1, 2, 6, 1); road(2, 0, 7, 1); spots(0, 1, 0)
            row(0, 0, 9, 0, 1, 2, 9); proof(0, 0, 1, 3) 18; row(1, 1, 0, 1, 2); proof(1, 1, 0, 3) 18
            row(2, 2, 9, 9, 0, 1, 2); proof(2, 2, 2, 3) 18; proof(2, 2, 2, 2) -100; proof(2, 2, 3, 2) -1
            fault() 0
            """);
        promise.test("as the MAP is now", """
            road(0, 1, 5, 0); road(1, 2, 6, 2); row(0, 0, 0, 1); spots(0, 2); lay() 2; proof(0, 0, 0, 2) 11
            shut(0, true); proof(0, 0, 0, 2) -1; shut(0, false); wet(1, true); proof(0, 0, 0, 2) -2
            wet(1, false); proof(0, 0, 0, 2) 11; road(0, 2, 3, 0); proof(0, 0, 0, 2) 11
            """);
        promise.test("its sum of LENGTHS", Maps.RING + """
            spots(0, 1); row(0, 0, 0, 1, 2, 3, 4, 5, 6, 7, 8, 9); proof(0, 0, 0, 1) 1000
            spots(0, 9); proof(0, 0, 0, 9) 9036; spots(0, 9, 0); proof(0, 0, 0, 10) 29036
            """);
    }

    private static void proofPlaces(Sentences promise) {
        promise.test("else -1 less the place of the first one that may not stand there", Maps.RING + """
            spots(0, 9, 0); row(0, 0, 0, 1, 2, 3, 4, 5, 6, 7, 8, 9, 9, 16, -1)
            proof(0, 0, 0, 11) -11; proof(0, 0, 0, 13) -11; proof(0, 0, 1, 5) -1; shut(4, true)
            proof(0, 0, 0, 13) -5; put(0, 1, 7); proof(0, 0, 0, 13) -2; put(0, 0, 16); proof(0, 0, 0, 13) -1
            """);
        promise.test("(no such ROAD", """
            road(0, 1, 5, 0); spots(0, 1, 2); row(0, 2, 0, 1, 0, -1, 0, MAX, 0, MIN, 16)
            proof(0, 2, 0, 2) -2; proof(0, 2, 2, 2) -2; proof(0, 2, 4, 2) -2; proof(0, 2, 6, 2) -2
            proof(0, 2, 1, 1) -1; proof(0, 2, 3, 1) -1; proof(0, 2, 8, 1) -1; proof(0, 2, 5, 1) -1
            road(1, 2, 5, 0); proof(0, 2, 0, 2) 10
            """);
        promise.test("one that stood there ahead", """
            road(0, 1, 5, 0); road(0, 1, 6, 0); spots(0, 1, 0); row(0, 0, 0, 0, 1, 0); proof(0, 0, 0, 2) -2
            proof(0, 0, 1, 3) -3; proof(0, 0, 1, 2) 11
            """);
        promise.test("not open this way", """
            road(0, 1, 5, 1); road(2, 1, 6, 1); road(1, 2, 7, 2); spots(0, 2); row(0, 0, 0, 1, 0, 2)
            proof(0, 0, 0, 2) -2; proof(0, 0, 2, 2) 12; wet(2, true); proof(0, 0, 2, 2) -2
            shut(2, true); wet(2, false); proof(0, 0, 2, 2) -2; shut(0, true); proof(0, 0, 2, 2) -1
            """);
        promise.test("not at where the one ahead ended", """
            road(0, 1, 5, 0); road(2, 3, 6, 0); road(0, 3, 7, 0); spots(0, 3); row(0, 0, 0, 1, 0, 2)
            proof(0, 0, 0, 2) -2; proof(0, 0, 2, 2) -2; road(1, 2, 8, 0)
            row(0, 0, 0, 3, 1); proof(0, 0, 0, 3) 19
            """);
        promise.test("the first one: not at THE BOOK's first SPOT)", """
            road(0, 1, 5, 0); road(1, 2, 6, 0); spots(0, 2); row(0, 0, 1, 0); proof(0, 0, 0, 1) -1
            proof(0, 0, 0, 2) -1; spots(1, 2); proof(0, 0, 0, 1) 6; spots(9, 0); proof(0, 0, 0, 2) -1
            """);
        promise.test("else -100: it does not PASS", """
            road(0, 1, 5, 0); road(1, 2, 6, 0); road(2, 0, 7, 0); row(0, 0, 0, 1, 2)
            spots(0, 3); proof(0, 0, 0, 1) -100; proof(0, 0, 0, 3) -100
            spots(0, 2, 1); proof(0, 0, 0, 2) -100; spots(0, 1); proof(0, 0, 0, 2) -100
            spots(0, 1, 2, 0, 1); proof(0, 0, 0, 3) -100; spots(0, 3, 2); proof(0, 0, 0, 2) -100
            spots(0, 2, 1, 2); proof(0, 0, 0, 2) -100
            """);
        promise.test("has no ROADS", """
            spots(0, 1); row(0, 0, 5); proof(0, 0, 0, 0) -100; proof(0, 0, 1, 0) -100; fault() 0
            sheet(1, 0, 0) 1; proof(1, 0, 0, 0) -100; fault() 0
            """);
        promise.test("or more than 10.", Maps.TWELVE_SIDE_BY_SIDE + """
            spots(0, 1, 0); proof(0, 0, 0, 10) 1045; proof(0, 0, 0, 12) -100; proof(0, 0, 1, 11) -100
            spots(0, 1); proof(0, 0, 0, 9) 936; proof(0, 0, 0, 11) -100
            put(0, 11, 3) 1; proof(0, 0, 0, 12) -12
            """);
    }

    private static void proofRefusals(Sentences promise) {
        promise.test("LOST: UNKNOWN", """
            spots(0, 1); proof(4, 2, 0, 1) LOST; proof(-1, 2, 0, 1) LOST; fault() 0; proof(MAX, 2, 0, 1) LOST
            proof(MIN, 2, 0, 1) LOST; proof(4, 2, -1, -1) LOST; fault() 0
            """);
        promise.test("OUTSIDE: lane", """
            road(0, 1, 5, 0); spots(0, 1); proof(3, 3, 0, 1) LOST; fault() 0; proof(3, -1, 0, 1) LOST
            proof(3, MAX, 0, 1) LOST; proof(0, 3, 0, 1) LOST; fault() 0; proof(3, 2, 0, 1) 5
            """);
        promise.test("STATE: there is no BOOK", """
            road(0, 1, 5, 0); row(0, 0, 0); proof(0, 0, 0, 1) LOST; fault() 0; proof(1, 0, 0, 1) LOST; fault() 0
            proof(0, 1, 0, 1) LOST; fault() 0; proof(0, 0, 0, -1) LOST; fault() 0; proof(0, 0, 5, 1) LOST
            fault() 0; spots(0, 1); proof(0, 0, 0, 1) 5
            """);
        promise.test("FAULTS CAST", """
            spots(0, 1); row(0, 0, 0, 1, 2); row(1, 1, 0, 1, 2); proof(0, 1, 0, 1) LOST; fault() 2
            proof(0, 2, -1, -1) LOST; fault() 2; proof(1, 0, 0, 1) LOST; fault() 2; proof(1, 2, 9, 1) LOST
            fault() 2; proof(3, 0, 0, 1) LOST; fault() 2; proof(3, 1, 0, 0) LOST; fault() 2
            """);
        promise.test("NULL", """
            spots(0, 1); proof(0, 0, 0, 1) LOST; fault() 1; trace(); proof(0, 2, -1, -1) LOST; fault() 1
            lose(3) 1; proof(3, 2, 0, 2) LOST; fault() 1
            """);
        promise.test("SIZE", """
            spots(0, 1); proof(3, 2, 0, -1) LOST; fault() 4; proof(3, 2, 0, MIN) LOST; fault() 4
            proof(3, 2, -1, -1) LOST; fault() 4; proof(3, 2, 9, -1) LOST; fault() 4
            """);
        promise.test("INDEX.", """
            spots(0, 1); proof(3, 2, -1, 1) LOST; fault() 3; proof(3, 2, 0, 3) LOST; fault() 3
            proof(3, 2, 2, 1) LOST; fault() 3; proof(3, 2, -1, 0) LOST; fault() 3; proof(3, 2, 3, 0) LOST
            fault() 3; proof(3, 2, 1, MAX) LOST; fault() 3; proof(3, 2, MAX, MAX) LOST; fault() 3
            proof(3, 2, MIN, 1) LOST; fault() 3; proof(3, 2, 2, 0) -100; fault() 0
            """);
    }

    private static void told(Sentences promise) {
        promise.test("How many: 0 ROADS", () -> Run.of("told(0) 0").times(16, "told(0) #; road(0, 1, 5, 0) #")
            .then("told(0) 16; road(0, 1, 5, 0) -4; told(0) 16; shut(0, true); told(0) 16"));
        promise.test("1 ROADS of THE WAY LAID (0: none)", Maps.RING + """
            told(1) 0; spots(0, 9, 0); told(1) 0; ways() 2; told(1) 0; lay() 10; told(1) 10
            spots(0, 9); lay() 9; told(1) 9; shut(0, true); told(1) 9; lay() 1; told(1) 1
            shut(9, true); lay() -9; told(1) 1
            """);
        promise.test("2 its metres", Maps.RING + """
            told(2) 0; spots(0, 9, 0); told(2) 0; lay() 10; told(2) 29036; spots(0, 1); told(2) 29036
            lay() 1; told(2) 1000
            """);
        promise.test("3 SPEEDS", () -> Run.of("told(3) 0; way(5); told(3) 0").times(8, "told(3) #; speed(5, 9)")
            .then("told(3) 8; speed(0, 9) -4; told(3) 8; lay() 1; told(3) 0; speed(0, 0) -2; told(3) 0"));
        promise.test("4 CONTROLS", () -> Run.of("told(4) 0; way(99)").times(8, "told(4) #; control(1#) #")
            .then("told(4) 8; control(9) -4; control(17) -3; strike(0, true); told(4) 8; lay() 1; told(4) 0")
            .then("control(0) -2; told(4) 0"));
        promise.test("5 CARS", () -> Run.of("told(5) 0; car(0, 3) -2; told(5) 0").times(8, "told(5) #; car(0, 0) #")
            .then("told(5) 8; car(0, 0) -4; told(5) 8; way(5); told(5) 8"));
        promise.test("6 SPOTS of THE BOOK", """
            told(6) 0; spots(0, 1); told(6) 2; row(0, 0, 0, 1, 2, 3, 4, 5, 6, 7, 8); book(0, 0, 1, 8) 8; told(6) 8
            book(0, 0, 0, 9) -2; told(6) 8; book(0, 0, 0, 3) 3; told(6) 3; book(0, 0, 9, 1) -13; told(6) 3
            """);
        promise.test("7 TRIALS of the latest SEARCH", """
            told(7) 0; ways() -3; told(7) 0; road(0, 1, 5, 0); road(1, 2, 5, 0); told(7) 0; spots(0, 2); told(7) 0
            ways() 1; told(7) 2; spots(0, 1); told(7) 2; lay() 1; told(7) 1; row(0, 0, 0); proof(0, 0, 0, 1) 5
            told(7) 1; spots(9, 0); ways() 0; told(7) 0; spots(0, 9); lay() -9; told(7) 2
            """);
        promise.test("(also one that was SPENT: 60000).", Maps.SPENDING + """
            spots(0, 9); ways() -6; told(7) 60000; spots(0, 1); ways() 1; told(7) 6; spots(0, 9); lay() -6
            told(7) 60000; told(7) 60000
            """);
        promise.test("OUTSIDE.", "told(-1) -2; told(8) -2; told(MAX) -2; told(MIN) -2; told(7) 0");
        promise.end();
    }
}
