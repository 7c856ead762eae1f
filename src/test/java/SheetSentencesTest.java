/** Part 4 of the document, sheets and bodies, promises 24 to 28, 30 to 33: a test for each sentence. */
public final class SheetSentencesTest {
    public static void main(String[] args) {
        Sentences sheets = Sentences.between("==== 4 ", "Ahead of the calls `road`");
        sheets(sheets);
        telling(sheets);
        greeting(sheets);
        sheets.end();
        sheet(Sentences.ofPromise(24));
        lose(Sentences.ofPromise(25));
        put(Sentences.ofPromise(26));
        cell(Sentences.ofPromise(27));
        copy(Sentences.ofPromise(28));
        greet(Sentences.ofPromise(30));
        as(Sentences.ofPromise(31));
        trace(Sentences.ofPromise(32));
        fault(Sentences.ofPromise(33));
        Due.end();
    }

    private static void sheets(Sentences sheets) {
        sheets.test("SHEETS 0 .. 3", () -> Run.of("").times(4, "sheet(#, 0, 1) 1; put(#, 0, 1#) 1")
            .times(4, "cell(#, 0, 0) 1#").then("sheet(4, 0, 1) -1; sheet(-1, 0, 1) -1; put(4, 0, 1) -1")
            .then("put(-1, 0, 1) -1; cell(4, 0, 0) LOST; fault() 0; lose(4) -1; lose(-1) -1"));
        sheets.test("have nothing (at first)", () -> Run.of("")
            .times(4, "lose(#) 0; put(#, 0, 5) -11; cell(#, 0, 2) LOST; fault() 1; copy(#, 0, #, 0, 0) -11"));
        sheets.test("or a row of 0 .. 32 numbers", """
            sheet(0, 0, 33) -2; sheet(0, 0, -1) -14; lose(0) 0; sheet(0, 0, 0) 1; put(0, 0, 5) -13; lose(0) 1
            sheet(0, 2, 32) 1; put(0, 31, 5) 1; cell(0, 31, 2) 5; put(0, 32, 5) -13; cell(0, 32, 2) LOST; fault() 3
            """);
        sheets.test("(0 at first)", () -> Run.of("sheet(1, 2, 32) 1").times(32, "cell(1, #, 2) 0; put(1, #, -7) 1")
            .then("sheet(1, 1, 32) 1").times(32, "cell(1, #, 1) 0").then("put(1, 3, 9); lose(1); sheet(1, 1, 4) 1")
            .times(4, "cell(1, #, 1) 0"));
        sheets.test("of a LANE: 0 bytes, 1 shorts, 2 ints", """
            sheet(0, 3, 1) -2; sheet(0, -1, 1) -2; lose(0) 0; sheet(0, 0, 1) 1; sheet(1, 1, 1) 1; sheet(2, 2, 1) 1
            put(0, 0, 1000000); put(1, 0, 1000000); put(2, 0, 1000000); cell(0, 0, 0) 64; cell(1, 0, 1) 16960
            cell(2, 0, 2) 1000000
            """);
        sheets.test("what comes to a cell of it is cut to its LANE (with its sign).", """
            row(0, 0, 127, 128, -128, -129, 255, 256, MAX, MIN); cell(0, 0, 0) 127; cell(0, 1, 0) -128
            cell(0, 2, 0) -128; cell(0, 3, 0) 127; cell(0, 4, 0) -1; cell(0, 5, 0) 0; cell(0, 6, 0) -1
            cell(0, 7, 0) 0; row(1, 1, 32767, 32768, -32768, -32769, 65535, 65536, MAX, MIN)
            cell(1, 0, 1) 32767; cell(1, 1, 1) -32768; cell(1, 2, 1) -32768; cell(1, 3, 1) 32767
            cell(1, 4, 1) -1; cell(1, 5, 1) 0; cell(1, 6, 1) -1; cell(1, 7, 1) 0
            row(2, 2, MAX, MIN, -1); cell(2, 0, 2) 2147483647; cell(2, 1, 2) -2147483648; cell(2, 2, 2) -1
            """);
    }

    private static void telling(Sentences sheets) {
        sheets.test("TELLING of ROADS by bodies that leave their number in TRACE", """
            road(0, 1, 5, 0); trace() 0; tell(0) 5; trace() 1; tell(1) -1; trace() 1
            """);
        // 1 so many times over: the seventh sum is the last one that fits
        sheets.test("(an int that wraps", () -> Run.of("road(0, 1, 5, 0)").times(6, "tell(0) 5")
            .then("trace() 29583456; tell(0); trace() 917087137; tell(0); trace() -1635069824; tell(0)")
            .then("trace() 852443009; tell(0); trace() 655929504; tell(0); trace() -1141021855"));
        sheets.test("0 at first", "trace() 0; road(0, 1, 5, 0); way(5); car(0, 0); trace() 0");
        sheets.test("becomes 31 times it and the number)", """
            road(0, 1, 5, 0); car(0, 0); tell(0); trace() 1; greet(0); trace() 35; tell(0); trace() 1086
            """);
        sheets.test("as they begin", """
            road(0, 1, 5, 1); road(0, 1, 5, 2); tell(0) 6; trace() 63; tell(1) 5; trace() 60637
            """);
        sheets.test("ROAD (1): its LENGTH.", """
            road(0, 1, 1, 0); road(0, 1, 20000, 0); tell(0) 1; trace() 1; tell(1) 20000; trace() 32
            shut(1, true); tell(1) 20000
            """);
        sheets.test("ONE WAY (2): 1 and what ROAD's gives.", """
            road(0, 1, 1, 1); road(0, 1, 20000, 1); tell(0) 2; trace() 63; tell(1) 20001; shut(1, true); tell(1) 20001
            """);
        sheets.test("FORD (3): what ROAD's gives", """
            road(0, 1, 1, 2); road(0, 1, 20000, 2); tell(0) 1; trace() 94; tell(1) 20000; shut(1, true); tell(1) 20000
            """);
        sheets.test("its contrary, if it is wet.", """
            road(0, 1, 1, 2); road(0, 1, 20000, 2); wet(1, true); tell(0) 1; tell(1) -20000; trace() 90428
            wet(1, false); tell(1) 20000; wet(0, true); tell(0) -1
            """);
    }

    private static void greeting(Sentences sheets) {
        sheets.test("GREETED by a lent body (4) of CARS: 10 times the number, and the class",
            () -> Run.of("").times(8, "car(0, 0) #").times(8, "greet(#) #0").then("trace() 2049655296"));
        sheets.test("OLD has its own (5): 7", "car(0, 1); car(0, 1); greet(1) 7; trace() 5; greet(0) 7; trace() 160");
        sheets.test("NOVICE (6): what OLD's gives, and 1.", """
            car(0, 2); car(0, 2); greet(1) 8; trace() 191; greet(0) 8; trace() 183742
            """);
    }

    private static void sheet(Sentences promise) {
        promise.test("A SHEET gets a new row: 1.", """
            sheet(0, 0, 2) 1; fault() 0; cell(0, 1, 0) 0; put(0, 1, 5) 1; sheet(0, 0, 2) 1; cell(0, 1, 0) 0
            sheet(0, 1, 3) 1; cell(0, 2, 1) 0; cell(0, 0, 0) LOST; fault() 2; sheet(0, 2, 1) 1; cell(0, 1, 2) LOST
            fault() 3; lose(1) 0; sheet(3, 2, 32) 1
            """);
        promise.test("UNKNOWN", """
            sheet(4, 0, 1) -1; sheet(-1, 0, 1) -1; sheet(MAX, 0, 1) -1; sheet(MIN, 0, 1) -1; sheet(4, 3, 33) -1
            sheet(4, 0, -1) -1; fault() 0
            """);
        promise.test("OUTSIDE: lane", """
            row(0, 0, 5); sheet(0, 3, 1) -2; sheet(0, -1, 1) -2; sheet(0, MAX, 1) -2; sheet(0, MIN, 1) -2
            sheet(0, 3, -1) -2; fault() 0; cell(0, 0, 0) 5
            """);
        promise.test("n above 32", """
            row(0, 0, 5); sheet(0, 0, 33) -2; sheet(0, 2, MAX) -2; fault() 0; cell(0, 0, 0) 5; sheet(0, 0, 32) 1
            """);
        promise.test("SIZE.", """
            row(0, 0, 5); sheet(0, 0, -1) -14; fault() 4; sheet(0, 2, MIN) -14; fault() 4; cell(0, 0, 0) 5
            sheet(1, 0, -1) -14; lose(1) 0; sheet(0, 0, 0) 1; fault() 0; cell(0, 0, 0) LOST; fault() 3
            """);
        promise.end();
    }

    private static void lose(Sentences promise) {
        promise.test("A SHEET has nothing: 1", """
            row(0, 0, 5); row(1, 0, 6); sheet(2, 0, 0) 1; lose(0) 1; put(0, 0, 1) -11; cell(0, 0, 0) LOST; fault() 1
            cell(1, 0, 0) 6; lose(2) 1; copy(2, 0, 1, 0, 0) -11; sheet(0, 0, 1) 1; cell(0, 0, 0) 0
            """);
        promise.test("0: it had nothing.", "lose(0) 0; lose(3) 0; row(0, 0, 5); lose(0) 1; lose(0) 0; lose(1) 0");
        promise.test("UNKNOWN.", "put(0, 0, 0) -11; lose(4) -1; lose(-1) -1; lose(MAX) -1; lose(MIN) -1; fault() 1");
        promise.end();
    }

    private static void put(Sentences promise) {
        promise.test("Cell i of a SHEET becomes v: 1.", """
            sheet(0, 2, 3) 1; put(0, 1, 7) 1; fault() 0; cell(0, 0, 2) 0; cell(0, 1, 2) 7; cell(0, 2, 2) 0
            put(0, 1, -8) 1; cell(0, 1, 2) -8; put(0, 0, 1) 1; put(0, 2, 2) 1; cell(0, 2, 2) 2
            """);
        promise.test("UNKNOWN", """
            put(4, 0, 1) -1; put(-1, 0, 1) -1; put(MAX, 0, 1) -1; put(MIN, 0, 1) -1; put(4, -1, 1) -1; fault() 0
            """);
        promise.test("NULL", """
            put(0, 0, 1) -11; fault() 1; put(0, -1, 1) -11; put(3, MAX, 1) -11; row(0, 0, 5); lose(0); put(0, 0, 1) -11
            """);
        promise.test("INDEX.", """
            row(0, 0, 5, 6); put(0, -1, 1) -13; fault() 3; put(0, 2, 1) -13; put(0, MAX, 1) -13; put(0, MIN, 1) -13
            put(0, 32, 1) -13; cell(0, 0, 0) 5; cell(0, 1, 0) 6; put(0, 1, 1) 1; fault() 0
            sheet(1, 2, 0) 1; put(1, 0, 1) -13
            """);
        promise.end();
    }

    private static void cell(Sentences promise) {
        promise.test("Cell i of what a SHEET has", """
            row(0, 0, 5, -6, 7); row(1, 0, 8); cell(0, 0, 0) 5; cell(0, 1, 0) -6; cell(0, 2, 0) 7; cell(1, 0, 0) 8
            fault() 0
            """);
        promise.test("taken as a row of a LANE.", """
            row(0, 0, 1); row(1, 1, 2); row(2, 2, 3); cell(0, 0, 0) 1; cell(1, 0, 1) 2; cell(2, 0, 2) 3; fault() 0
            cell(0, 0, 1) LOST; cell(1, 0, 2) LOST; cell(2, 0, 0) LOST
            """);
        promise.test("LOST: UNKNOWN", """
            cell(4, 0, 0) LOST; fault() 0; cell(-1, 0, 0) LOST; fault() 0; cell(MAX, 0, 0) LOST; cell(MIN, -1, 9) LOST
            fault() 0
            """);
        promise.test("OUTSIDE: lane", """
            cell(0, 0, 3) LOST; fault() 0; row(0, 0, 5); cell(0, 0, 3) LOST; fault() 0; cell(0, 0, -1) LOST; fault() 0
            cell(0, 0, MAX) LOST; cell(0, -1, MIN) LOST; fault() 0
            """);
        promise.test("FAULTS CAST (nothing is no CAST)", """
            row(0, 0, 5); row(1, 1, 6); row(2, 2, 7); cell(0, 0, 1) LOST; fault() 2; cell(0, 9, 2) LOST; fault() 2
            cell(1, 0, 0) LOST; fault() 2; cell(1, -1, 2) LOST; fault() 2; cell(2, 0, 0) LOST; fault() 2
            cell(2, 0, 1) LOST; fault() 2; cell(3, 0, 1) LOST; fault() 1
            """);
        promise.test("NULL", """
            cell(0, 0, 0) LOST; fault() 1; cell(0, -1, 1) LOST; fault() 1; cell(3, 99, 2) LOST; fault() 1
            row(0, 0, 5); lose(0); cell(0, 0, 0) LOST; fault() 1; cell(0, 0, 2) LOST; fault() 1
            """);
        promise.test("INDEX.", """
            row(0, 0, 5, 6); cell(0, -1, 0) LOST; fault() 3; cell(0, 2, 0) LOST; fault() 3; cell(0, MAX, 0) LOST
            fault() 3; cell(0, MIN, 0) LOST; fault() 3; cell(0, 32, 0) LOST; fault() 3; cell(0, 1, 0) 6; fault() 0
            sheet(0, 0, 0) 1; cell(0, 0, 0) LOST; fault() 3
            """);
        promise.end();
    }

    private static void copy(Sentences promise) {
        promise.test("n cells of a SHEET from i on go to another one", """
            row(0, 2, 1, 2, 3, 4); row(1, 2, 10, 20, 30); copy(0, 2, 1, 0, 2) 2; cell(1, 0, 2) 3; cell(1, 1, 2) 4
            cell(1, 2, 2) 30; cell(0, 2, 2) 3; fault() 0; copy(0, 0, 1, 0, 3) 3; cell(1, 2, 2) 3
            copy(0, 0, 1, 0, 0) 0; copy(0, 4, 1, 3, 0) 0; put(0, 0, 9); cell(1, 0, 2) 1
            """);
        promise.test("(perhaps the same)", """
            row(0, 0, 1, 2, 3, 4, 5); copy(0, 0, 0, 3, 2) 2; cell(0, 3, 0) 1; cell(0, 4, 0) 2; cell(0, 0, 0) 1
            copy(0, 0, 0, 0, 5) 5; cell(0, 2, 0) 3; cell(0, 4, 0) 2
            """);
        promise.test("from j on", """
            row(0, 1, 7, 8); row(1, 1, 0, 0, 0, 0); copy(0, 0, 1, 2, 2) 2; cell(1, 0, 1) 0; cell(1, 1, 1) 0
            cell(1, 2, 1) 7; cell(1, 3, 1) 8; copy(0, 1, 1, 0, 1) 1; cell(1, 0, 1) 8; cell(1, 1, 1) 0
            """);
        promise.test("as they were: n.", """
            row(0, 2, 1, 2, 3, 4, 5); copy(0, 0, 0, 1, 4) 4; cell(0, 0, 2) 1; cell(0, 1, 2) 1; cell(0, 2, 2) 2
            cell(0, 3, 2) 3; cell(0, 4, 2) 4; copy(0, 2, 0, 0, 3) 3; cell(0, 0, 2) 2; cell(0, 1, 2) 3; cell(0, 2, 2) 4
            cell(0, 3, 2) 3; cell(0, 4, 2) 4
            """);
        promise.test("UNKNOWN", """
            row(0, 0, 5); copy(4, 0, 0, 0, 1) -1; copy(-1, 0, 0, 0, 1) -1; copy(0, 0, 4, 0, 1) -1
            copy(0, 0, -1, 0, 1) -1; copy(MAX, 0, MIN, 0, -1) -1; copy(1, 0, 4, 0, 1) -1; copy(4, -1, 1, -1, -1) -1
            fault() 0
            """);
        promise.test("FAULTS NULL (the first", """
            row(1, 0, 5); copy(0, 0, 1, 0, 1) -11; fault() 1; copy(0, -1, 1, -1, -1) -11; copy(0, 0, 0, 0, 0) -11
            cell(1, 0, 0) 5
            """);
        promise.test("the other)", """
            row(1, 0, 5); copy(1, 0, 0, 0, 1) -11; fault() 1; copy(1, -1, 0, 9, -1) -11; copy(1, 0, 0, 0, 0) -11; lose(0) 0
            """);
        promise.test("CAST (unlike LANES)", """
            row(0, 0, 5); row(1, 1, 6); row(2, 2, 7); copy(0, 0, 1, 0, 1) -12; fault() 2; copy(1, 0, 0, 0, 1) -12
            copy(0, 0, 2, 0, 0) -12; copy(2, -1, 1, 9, -1) -12; fault() 2; cell(1, 0, 1) 6; copy(2, 0, 3, 0, 1) -11
            """);
        promise.test("INDEX: i, j, n below 0", """
            row(0, 0, 5, 6, 7); row(1, 0, 1, 2, 3); copy(0, -1, 1, 0, 1) -13; fault() 3; copy(0, 0, 1, -1, 1) -13
            fault() 3; copy(0, 0, 1, 0, -1) -13; fault() 3; copy(0, 1, 1, 1, MIN) -13; copy(0, MIN, 1, 0, 0) -13
            copy(0, 0, 1, MIN, 0) -13; copy(0, -1, 1, 0, 0) -13; copy(0, 0, 1, -1, 0) -13; copy(0, 3, 1, 3, -1) -13
            cell(1, 0, 0) 1; cell(1, 1, 0) 2
            """);
        promise.test("or beyond.", """
            row(0, 0, 5, 6, 7); row(1, 0, 1, 2); copy(0, 2, 1, 0, 2) -13; fault() 3; copy(0, 0, 1, 0, 3) -13
            copy(0, 0, 1, 1, 2) -13; copy(0, 4, 1, 0, 0) -13; copy(0, 0, 1, 3, 0) -13; copy(0, MAX, 1, 0, 1) -13
            copy(0, 0, 1, MAX, 1) -13; copy(0, 1, 1, 1, MAX) -13; copy(0, MAX, 1, MAX, MAX) -13
            cell(1, 0, 0) 1; cell(1, 1, 0) 2; copy(0, 3, 1, 2, 0) 0; copy(0, 1, 1, 0, 2) 2; fault() 0
            """);
        promise.end();
    }

    private static void greet(Sentences promise) {
        promise.test("How a CAR is GREETED.", """
            car(0, 0); car(0, 1); car(0, 2); car(0, 0); greet(0) 0; greet(1) 7; greet(2) 8; greet(3) 30
            """);
        promise.test("UNKNOWN.", """
            greet(0) -1; car(0, 0); greet(1) -1; greet(-1) -1; greet(MAX) -1; greet(MIN) -1; greet(8) -1; trace() 0
            """);
        promise.end();
    }

    private static void as(Sentences promise) {
        promise.test("A CAR, taken as one of a class: 1.", """
            car(0, 0); car(0, 1); car(0, 2); as(0, 0) 1; as(1, 0) 1; as(1, 1) 1; as(2, 0) 1; as(2, 1) 1; as(2, 2) 1
            fault() 0; greet(2) 8; greet(1) 7
            """);
        promise.test("UNKNOWN", """
            as(0, 0) -1; car(0, 2); as(1, 0) -1; as(-1, 0) -1; as(MAX, 0) -1; as(MIN, 0) -1; as(1, 3) -1; fault() 0
            """);
        promise.test("OUTSIDE", """
            car(0, 0); car(0, 2); as(0, 3) -2; as(0, -1) -2; as(1, 3) -2; as(1, MAX) -2; as(1, MIN) -2; fault() 0
            """);
        promise.test("CAST: it is none.", """
            car(0, 0); car(0, 1); as(0, 1) -12; fault() 2; as(0, 0) 1; fault() 0; as(0, 2) -12; fault() 2; as(0, 3) -2
            fault() 0; as(1, 2) -12; fault() 2
            """);
        promise.end();
    }

    private static void trace(Sentences promise) {
        promise.test("TRACE.", """
            trace() 0; road(0, 1, 5, 2); car(0, 2); trace() 0; tell(0); trace() 94; trace() 94; greet(0); trace() 90525
            tell(1) -1; greet(1) -1; as(0, 2) 1; about(0, 2); way(5); trace() 90525
            """);
        promise.end();
    }

    private static void fault(Sentences promise) {
        promise.test("The FAULT of the latest call that names one", () -> {
            Run.of("""
                road(0, 1, 5, 0); car(0, 0); spots(0, 1); put(0, 0, 0) -11; fault() 1; fault() 1
                wet(0, true) -12; fault() 2; put(3, 9, 0) -13; fault() 3; sheet(0, 0, -1) -14; fault() 4
                cell(0, 0, 0) LOST; fault() 1; as(0, 1) -12; fault() 2; book(3, 2, -1, 2) -13; fault() 3
                proof(3, 2, 0, -1) LOST; fault() 4; copy(0, 0, 1, 0, 0) -11; fault() 1
                """);
            // no call here names a fault, so the latest one stays
            Run.of("""
                spots(0, 1); put(0, 0, 0) -11; road(0, 1, 5, 0); shut(0, false); about(0, 0); ways(); lay(); laid(0)
                speed(0, 5); due(0); roadAt(0); control(1); watch(0, 0, 1, 0, 1); right(0, 0); strike(0, false)
                car(0, 0); clock(0, 0, 5); allow(0, 0, 5); error(0, 0); points(0, 0); result(0, 0); lose(3); tell(0)
                greet(0); trace(); told(0); shut(9, true) -1; lose(9) -1; told(9) -2; greet(9) -1; fault() 1
                """);
        });
        promise.test("0: it came to none", """
            road(0, 1, 5, 2); car(0, 1); row(0, 0, 0, 1); row(1, 0, 0)
            put(0, 9, 0) -13; wet(0, false) 0; fault() 0; put(0, 9, 0) -13; wet(0, true) 1; fault() 0; wet(0, false)
            put(0, 9, 0) -13; book(0, 0, 0, 2) 2; fault() 0; put(0, 9, 0) -13; proof(1, 0, 0, 1) 5; fault() 0
            put(0, 9, 0) -13; proof(0, 0, 0, 2) -2; fault() 0; put(0, 9, 0) -13; sheet(2, 0, 1) 1; fault() 0
            put(0, 9, 0) -13; put(0, 0, 1) 1; fault() 0; put(0, 9, 0) -13; cell(0, 0, 0) 1; fault() 0
            put(0, 9, 0) -13; copy(0, 0, 1, 0, 1) 1; fault() 0; put(0, 9, 0) -13; as(0, 1) 1; fault() 0
            """);
        promise.test("or was refused", """
            road(0, 1, 5, 2); car(0, 1); row(0, 0, 0, 0)
            put(0, 9, 0) -13; wet(1, true) -1; fault() 0; put(0, 9, 0) -13; book(4, 0, 0, 2) -1; fault() 0
            put(0, 9, 0) -13; book(0, 3, 0, 2) -2; fault() 0; put(0, 9, 0) -13; book(0, 0, 0, 2) -2; fault() 0
            put(0, 9, 0) -13; proof(0, 0, 0, 1) LOST; fault() 0; put(0, 9, 0) -13; proof(4, 0, 0, 1) LOST; fault() 0
            put(0, 9, 0) -13; proof(0, 3, 0, 1) LOST; fault() 0; put(0, 9, 0) -13; sheet(4, 0, 1) -1; fault() 0
            put(0, 9, 0) -13; sheet(0, 3, 1) -2; fault() 0; put(0, 9, 0) -13; sheet(0, 0, 33) -2; fault() 0
            put(0, 9, 0) -13; put(4, 0, 0) -1; fault() 0; put(0, 9, 0) -13; cell(4, 0, 0) LOST; fault() 0
            put(0, 9, 0) -13; cell(0, 0, 3) LOST; fault() 0; put(0, 9, 0) -13; copy(4, 0, 0, 0, 1) -1; fault() 0
            put(0, 9, 0) -13; copy(0, 0, 4, 0, 1) -1; fault() 0; put(0, 9, 0) -13; as(1, 0) -1; fault() 0
            put(0, 9, 0) -13; as(0, 3) -2; fault() 0
            """);
        promise.test("(0 ahead of any).", "fault() 0; road(0, 1, 5, 0); shut(3, true) -1; lose(9) -1; fault() 0");
        promise.end();
    }
}
