/** Part 1 of the document, the map, and promises 1 to 5, 29: a test for each of their sentences. */
public final class MapSentencesTest {
    public static void main(String[] args) {
        Sentences map = Sentences.between("==== 1 THE MAP: ", "==== 2 THE WAY LAID");
        roads(map);
        kinds(map);
        theBook(map);
        ways(map);
        theLeastWay(map);
        aSearch(map);
        map.end();
        aNewObject(Sentences.ofPromise(1));
        road(Sentences.ofPromise(2));
        shut(Sentences.ofPromise(3));
        wet(Sentences.ofPromise(4));
        about(Sentences.ofPromise(5));
        tell(Sentences.ofPromise(29));
        Due.end();
    }

    private static void roads(Sentences map) {
        map.test("SPOTS 0 .. 9 are there always.", """
            spots(0, 1, 2, 3, 4, 5, 6, 7); spots(8, 9); ways() 0
            road(9, 0, 1, 0) 0; road(0, 9, 1, 0) 1
            road(10, 0, 1, 0) -1; road(0, 10, 1, 0) -1; road(-1, 0, 1, 0) -1; road(0, -1, 1, 0) -1
            road(MIN, 0, 1, 0) -1; road(0, MAX, 1, 0) -1; told(0) 2
            row(0, 2, 0, 10, 0, -1, 0); book(0, 2, 0, 2) -2; book(0, 2, 2, 2) -2
            """);
        map.test("ROADS, 16 ever", () -> Run.of("").times(16, "road(0, 1, 5, 0) #").then("""
            road(0, 1, 5, 0) -4; told(0) 16; about(15, 2) 5; about(16, 2) -1
            shut(15, true) 1; road(0, 1, 5, 0) -4
            """));
        map.test("numbered as they come", """
            road(5, 6, 7, 0) 0; road(5, 10, 7, 0) -1; road(0, 1, 8, 2) 1; road(5, 6, 7, 1) 2
            about(0, 0) 5; about(1, 0) 0; about(2, 0) 5; about(0, 3) 0; about(2, 3) 1
            """);
        map.test("each from one SPOT to another one", """
            road(0, 0, 5, 0) -2; road(9, 9, 5, 1) -2; road(4, 4, 5, 2) -2; told(0) 0
            road(0, 1, 5, 0) 0; road(0, 1, 5, 0) 1; road(1, 0, 5, 0) 2
            """);
        map.test("with a LENGTH (1 .. 20000 metres)", """
            road(0, 1, 0, 0) -2; road(0, 1, -1, 0) -2; road(0, 1, MIN, 0) -2
            road(0, 1, 20001, 0) -2; road(0, 1, MAX, 0) -2; told(0) 0
            road(0, 1, 1, 0) 0; road(1, 2, 20000, 0) 1; about(0, 2) 1; about(1, 2) 20000
            spots(0, 2); lay() 2; told(2) 20001
            """);
    }

    private static void kinds(Sentences map) {
        map.test("of a kind: 0 ROAD, open both ways", """
            road(0, 1, 5, 0) 0; about(0, 3) 0; spots(0, 1); ways() 1; spots(1, 0); ways() 1
            row(0, 0, 0); proof(0, 0, 0, 1) 5; spots(0, 1); proof(0, 0, 0, 1) 5
            """);
        map.test("1 ONE WAY, a ROAD, from its first SPOT to its second alone", """
            road(0, 1, 5, 1) 0; about(0, 3) 1; spots(0, 1); ways() 1; spots(1, 0); ways() 0; told(7) 0
            row(0, 0, 0); proof(0, 0, 0, 1) -1; spots(0, 1); proof(0, 0, 0, 1) 5
            shut(0, true) 1; ways() 0; proof(0, 0, 0, 1) -1
            """);
        map.test("2 FORD, a ROAD, wet or not (at first not)", """
            road(0, 1, 5, 2) 0; about(0, 3) 2; about(0, 4) 0; wet(0, false) 0
            spots(0, 1); ways() 1; spots(1, 0); ways() 1
            wet(0, true) 1; wet(0, true) 0; wet(0, false) 1; ways() 1
            """);
        map.test("wet, it is as if SHUT.", """
            road(0, 1, 5, 2) 0; road(0, 1, 6, 0) 1; spots(0, 1); lay() 1; laid(0) 0
            wet(0, true) 1; about(0, 4) 1; lay() 1; laid(0) 1; told(7) 1
            row(0, 0, 0); proof(0, 0, 0, 1) -1; spots(1, 0); lay() 1; laid(0) 1
            shut(0, false) 0; wet(0, false) 1; lay() 1; laid(0) 0
            """);
        map.test("Any may be SHUT (at first none is).", () -> {
            for (int kind = 0; kind <= 2; kind++) {
                Run.of("road(0, 1, 5, " + kind + ") 0; spots(0, 1); row(0, 0, 0)").then("""
                    shut(0, false) 0; about(0, 4) 0; ways() 1
                    shut(0, true) 1; about(0, 4) 1; ways() 0; told(7) 0; proof(0, 0, 0, 1) -1
                    shut(0, false) 1; about(0, 4) 0; ways() 1; proof(0, 0, 0, 1) 5
                    """);
            }
        });
    }

    private static void theBook(Sentences map) {
        map.test("THE BOOK: a row of 2 to 8 SPOTS", """
            row(0, 2, 0, 1, 2, 3, 4, 5, 6, 7, 8); book(0, 2, 0, 0) -2; book(0, 2, 0, 1) -2
            book(0, 2, 0, 9) -2; told(6) 0; book(0, 2, 0, 2) 2; told(6) 2
            road(0, 1, 1, 0); road(1, 2, 1, 0); road(2, 3, 1, 0); road(3, 4, 1, 0); road(4, 5, 1, 0)
            road(5, 6, 1, 0); road(6, 8, 1, 0); road(8, 7, 1, 0); ways() 1
            book(0, 2, 0, 8) 8; told(6) 8; lay() 8; laid(7) 7; book(0, 2, 0, 7) 7; lay() 6
            """);
        map.test("no two next to one another alike", """
            row(0, 2, 1, 1, 2, 1, 2, 2); book(0, 2, 0, 2) -2; book(0, 2, 0, 4) -2; book(0, 2, 2, 4) -2
            told(6) 0; book(0, 2, 1, 4) 4; told(6) 4; book(0, 2, 4, 2) -2; told(6) 4
            """);
        map.test("a WAY begins at the first", """
            road(0, 1, 5, 0) 0; road(2, 1, 3, 0) 1; row(0, 0, 0, 1); spots(0, 1); lay() 1; laid(0) 0
            proof(0, 0, 0, 1) 5; proof(0, 0, 1, 1) -1
            spots(2, 1); lay() 1; laid(0) 1; proof(0, 0, 0, 1) -1; proof(0, 0, 1, 1) 3
            """);
        map.test("ends at the last", """
            road(0, 1, 5, 0) 0; road(1, 2, 5, 0) 1; row(0, 0, 0, 1); spots(0, 2); lay() 2
            proof(0, 0, 0, 1) -100; proof(0, 0, 0, 2) 10; spots(0, 1); lay() 1; laid(0) 0
            proof(0, 0, 0, 1) 5; proof(0, 0, 0, 2) -100; spots(0, 3); lay() -9
            """);
        map.test("and passes the others in this order", """
            road(0, 1, 10, 0) 0; road(1, 2, 10, 0) 1; road(2, 0, 10, 0) 2; row(0, 0, 0, 1, 2)
            spots(0, 1, 2); lay() 2; laid(0) 0; laid(1) 1; proof(0, 0, 0, 2) 20
            spots(0, 2, 1); lay() 2; laid(0) 2; laid(1) 1; proof(0, 0, 0, 2) -100
            spots(0, 1, 2, 0); lay() 3; laid(0) 0; spots(0, 2, 1, 0); lay() 3; laid(0) 2
            spots(0, 3, 1); proof(0, 0, 0, 1) -100; lay() -9; road(2, 3, 1, 1) 3; road(3, 2, 1, 1) 4
            spots(0, 1, 2); row(0, 0, 2, 3, 4); proof(0, 0, 0, 3) -100
            """);
        map.test("(others between, also these again, at will).", """
            road(0, 1, 1, 0) 0; road(1, 3, 1, 1) 1; road(3, 1, 1, 1) 2; road(1, 2, 1, 0) 3
            spots(0, 1, 3, 2); lay() 4; laid(0) 0; laid(1) 1; laid(2) 2; laid(3) 3; ways() 1
            spots(0, 3, 2); lay() 4; row(0, 0, 0, 1, 2, 3); proof(0, 0, 0, 4) 4
            spots(0, 2); lay() 2; proof(0, 0, 0, 4) 4; spots(0, 1, 2); proof(0, 0, 0, 4) 4
            """);
    }

    private static void ways(Sentences map) {
        map.test("A WAY is a row of 1 to 10 ROADS", () -> {
            Run.of("way(5); laid(0) 0; laid(1) -1; row(0, 0, 0); proof(0, 0, 0, 0) -100");
            Run.of(Maps.RING).then("""
                row(0, 0, 0, 1, 2, 3, 4, 5, 6, 7, 8, 9, 10); spots(0, 9, 0); lay() 10; ways() 2
                told(1) 10; laid(9) 9; laid(10) -1; told(2) 29036; proof(0, 0, 0, 10) 29036
                road(0, 1, 1, 0) 10; spots(0, 9, 0, 1); lay() -9; proof(0, 0, 0, 11) -100
                """);
        });
        map.test("none twice", """
            road(0, 1, 5, 0) 0; spots(0, 1, 0); row(0, 0, 0, 0); ways() 0; proof(0, 0, 0, 2) -2
            road(0, 1, 5, 0) 1; ways() 2; proof(0, 0, 0, 2) -2
            """);
        map.test("each gone in a way in which it is open", """
            road(0, 1, 5, 1) 0; road(1, 2, 5, 2) 1; row(0, 0, 0, 1, 1, 0)
            spots(0, 2); ways() 1; proof(0, 0, 0, 2) 10; spots(2, 0); ways() 0; proof(0, 0, 2, 2) -2
            spots(2, 1); ways() 1; spots(0, 2); wet(1, true) 1; ways() 0; proof(0, 0, 0, 2) -2
            wet(1, false) 1; shut(0, true) 1; ways() 0; proof(0, 0, 0, 2) -1
            """);
        map.test("beginning where the one ahead ended.", """
            road(0, 1, 5, 0) 0; road(2, 3, 5, 0) 1; row(0, 0, 0, 1); spots(0, 3); ways() 0
            proof(0, 0, 0, 2) -2; road(1, 2, 5, 0) 2; ways() 1; proof(0, 0, 0, 2) -2
            row(0, 0, 0, 2, 1); proof(0, 0, 0, 3) 15
            """);
        map.test("It PASSES THE BOOK, if the first SPOT is where it begins", """
            road(0, 1, 5, 0) 0; road(1, 2, 6, 0) 1; row(0, 0, 0, 1); spots(0, 2)
            proof(0, 0, 0, 2) 11; proof(0, 0, 1, 1) -1; spots(1, 2); proof(0, 0, 0, 2) -2
            proof(0, 0, 1, 1) 6; spots(5, 2); proof(0, 0, 0, 2) -1; ways() 0; told(7) 0
            """);
        map.test("and each next one of THE BOOK is found, as the first one such, behind the one ahead"
            + " of it among the SPOTS at which its ROADS end", """
            road(0, 1, 5, 1) 0; road(1, 2, 6, 1) 1; road(2, 1, 7, 1) 2; road(1, 0, 8, 1) 3
            row(0, 0, 0, 1, 2, 3); spots(0, 2, 1); proof(0, 0, 0, 2) -100; proof(0, 0, 0, 3) 18
            spots(0, 1, 2, 1); proof(0, 0, 0, 3) 18; proof(0, 0, 0, 4) -100
            spots(0, 1, 2, 1, 0); proof(0, 0, 0, 3) -100; proof(0, 0, 0, 4) 26; ways() 1
            spots(0, 2, 1, 2, 1); proof(0, 0, 0, 3) -100; ways() 0
            spots(0, 1, 0); proof(0, 0, 0, 4) 26; lay() 2; spots(0, 2, 0); lay() 4
            spots(1, 0, 2); row(0, 0, 1, 2, 1); proof(0, 0, 0, 1) -100; road(2, 1, 7, 1) 4
            road(1, 2, 6, 1) 5; row(0, 0, 1, 2, 5); proof(0, 0, 0, 3) -100; lay() 3; laid(0) 3
            """);
        map.test("and the last one is where it ends (found as such, or again).", """
            road(0, 1, 5, 1) 0; road(1, 2, 6, 1) 1; road(2, 1, 7, 1) 2; row(0, 0, 0, 1, 2)
            spots(0, 1); proof(0, 0, 0, 1) 5; proof(0, 0, 0, 2) -100; proof(0, 0, 0, 3) 18
            spots(0, 2); proof(0, 0, 0, 2) 11; proof(0, 0, 0, 3) -100
            """);
    }

    private static void theLeastWay(Sentences map) {
        map.test("THE LEAST WAY is the one of the least sum of LENGTHS that PASSES THE BOOK", """
            road(0, 1, 10, 0) 0; road(0, 2, 4, 0) 1; road(2, 1, 5, 0) 2; spots(0, 1); lay() 2
            told(2) 9; road(0, 1, 8, 0) 3; lay() 1; told(2) 8; laid(0) 3
            spots(0, 2, 1); lay() 2; told(2) 9; spots(0, 1, 2); lay() 2; told(2) 13; laid(0) 3
            """);
        map.test("of several the first as rows of ROADS by number", () -> {
            Run.of("""
                road(2, 1, 5, 0) 0; road(0, 1, 10, 0) 1; road(0, 2, 5, 0) 2; spots(0, 1); lay() 1
                laid(0) 1; shut(1, true) 1; lay() 2; laid(0) 2; laid(1) 0
                """);
            Run.of("""
                road(0, 2, 5, 0) 0; road(0, 1, 10, 0) 1; road(2, 1, 5, 0) 2; road(2, 1, 5, 0) 3
                spots(0, 1); lay() 2; laid(0) 0; laid(1) 2; shut(2, true) 1; lay() 2; laid(1) 3
                """);
        });
        map.test("RIVALS are the others of that sum.", """
            road(0, 1, 10, 0) 0; road(0, 2, 4, 0) 1; road(2, 1, 6, 0) 2; spots(0, 1); ways() 2
            road(0, 1, 11, 0) 3; ways() 2; road(0, 1, 10, 0) 4; ways() 3; road(0, 1, 9, 0) 5; ways() 1
            """);
    }

    private static void aSearch(Sentences map) {
        map.test("A SEARCH goes on from THE BOOK's first SPOT by ROADS, by number", () -> {
            Run.of("road(0, 1, 8, 0); road(0, 1, 9, 0); road(0, 1, 10, 0); spots(0, 1); ways() 1")
                .then("told(7) 1; spots(1, 0); ways() 1; told(7) 1; spots(2, 0); ways() 0; told(7) 0");
            Run.of("road(0, 1, 10, 0); road(0, 1, 9, 0); road(0, 1, 8, 0); spots(0, 1); ways() 1")
                .then("told(7) 3");
        });
        map.test("each ROAD that may come next (not yet in the row", """
            road(0, 1, 5, 0); spots(0, 9); ways() 0; told(7) 1
            road(0, 1, 5, 0); ways() 0; told(7) 4; road(0, 1, 5, 0); ways() 0; told(7) 15
            """);
        // rows of a ring of three by four roads: 4, 4 4, 4 4 4, 4 4 4 3 .. of 1 to 10 roads
        map.test("which has fewer than 10", () -> Run.of("")
            .times(4, "road(0, 1, 5, 1); road(1, 2, 5, 1); road(2, 0, 5, 1)")
            .then("spots(0, 9); ways() 0; told(7) 40596"));
        map.test("open this way", """
            road(0, 1, 5, 1); spots(0, 9); ways() 0; told(7) 1; spots(1, 9); ways() 0; told(7) 0
            road(1, 2, 5, 0); road(1, 3, 5, 2); ways() 0; told(7) 2; shut(1, true); ways() 0; told(7) 1
            wet(2, true); ways() 0; told(7) 0; shut(1, false); ways() 0; told(7) 1
            """);
        map.test("the sum with it not above that of the best WAY found so far, if there is one)", """
            road(0, 1, 10, 0); road(0, 2, 10, 0); road(0, 3, 11, 0); spots(0, 9); ways() 0; told(7) 3
            spots(0, 1); ways() 1; told(7) 2; spots(0, 2); ways() 1; told(7) 2
            spots(0, 3); ways() 1; told(7) 3
            """);
        map.test("counts one TRIAL", """
            road(0, 1, 5, 0); spots(0, 1); ways() 1; told(7) 1; lay() 1; told(7) 1
            road(1, 2, 5, 0); road(2, 3, 5, 0); spots(0, 3); lay() 3; told(7) 3; ways() 1; told(7) 3
            """);
        map.test("and is gone on from, before the next one is tried.", """
            road(0, 2, 5, 0); road(0, 1, 10, 0); road(2, 1, 4, 0); spots(0, 1); ways() 1; told(7) 2
            lay() 2; laid(0) 0; laid(1) 2
            """);
        map.test("More than 60000 TRIALS: SPENT.", Maps.NEARLY_SPENDING + """
            spots(9, 5); ways() 0; told(7) 59998; road(9, 8, 7, 1) 12; ways() 0; told(7) 59999
            road(9, 8, 7, 1) 13; ways() 0; told(7) 60000; lay() -9; told(7) 60000
            road(9, 8, 7, 1) 14; ways() -6; told(7) 60000; lay() -6; told(7) 60000
            road(9, 8, 7, 1) 15; ways() -6; told(7) 60000
            """);
    }

    private static void aNewObject(Sentences promise) {
        promise.test("No ROADS", """
            told(0) 0; about(0, 0) -1; shut(0, true) -1; wet(0, true) -1; tell(0) -1
            road(0, 1, 5, 0) 0; told(0) 1
            """);
        promise.test("BOOK", "told(6) 0; ways() -3; lay() -3; told(7) 0; proof(0, 0, 0, 0) LOST; fault() 0");
        promise.test("WAY", """
            told(1) 0; told(2) 0; laid(0) -1; roadAt(0) -3; due(0) LOST; speed(0, 5) -3; control(1) -3
            """);
        promise.test("SPEEDS", "told(3) 0; way(5); told(3) 0; due(0) LOST; speed(0, 5) 1; told(3) 1");
        promise.test("CONTROLS", """
            told(4) 0; watch(0, 0, 1, 0, 1) -1; right(0, 0) LOST; strike(0, false) -1; way(5)
            told(4) 0; strike(0, false) -1; control(5) 0; told(4) 1
            """);
        promise.test("CARS", "told(5) 0; greet(0) -1; as(0, 0) -1; result(0, 0) -1; car(0, 0) 0; told(5) 1");
        promise.test("SHEETS.", () -> Run.of("")
            .times(4, "lose(#) 0; put(#, 0, 0) -11; cell(#, 0, 0) LOST; fault() 1"));
        promise.end();
    }

    private static void road(Sentences promise) {
        promise.test("A ROAD more: its number.", """
            road(3, 4, 50, 1) 0; told(0) 1; road(4, 3, 60, 2) 1; told(0) 2
            about(0, 0) 3; about(0, 1) 4; about(0, 2) 50; about(0, 3) 1
            about(1, 0) 4; about(1, 1) 3; about(1, 2) 60; about(1, 3) 2
            """);
        promise.test("UNKNOWN: SPOTS", """
            road(-1, 1, 5, 0) -1; road(10, 1, 5, 0) -1; road(1, -1, 5, 0) -1; road(1, 10, 5, 0) -1
            road(MIN, 1, 5, 0) -1; road(1, MIN, 5, 0) -1; road(MAX, 1, 5, 0) -1; road(1, MAX, 5, 0) -1
            road(-1, -1, 0, 3) -1; told(0) 0
            """);
        promise.test("OUTSIDE: they are alike",
            "road(0, 0, 5, 0) -2; road(9, 9, 5, 0) -2; told(0) 0; road(0, 9, 5, 0) 0");
        promise.test("length", """
            road(0, 1, 0, 0) -2; road(0, 1, -1, 0) -2; road(0, 1, 20001, 0) -2; road(0, 1, MIN, 0) -2
            road(0, 1, MAX, 0) -2; told(0) 0; road(0, 1, 1, 0) 0; road(0, 1, 20000, 0) 1
            """);
        promise.test("kind", """
            road(0, 1, 5, -1) -2; road(0, 1, 5, 3) -2; road(0, 1, 5, MIN) -2; road(0, 1, 5, MAX) -2
            told(0) 0; road(0, 1, 5, 0) 0; road(0, 1, 5, 2) 1
            """);
        promise.test("FULL.", () -> Run.of("").times(16, "road(0, 1, 5, 0) #").then("""
            road(0, 1, 5, 0) -4; road(0, 1, 5, 3) -2; road(0, 1, 0, 0) -2; road(0, 0, 5, 0) -2
            road(0, 10, 5, 0) -1; told(0) 16
            """));
        promise.end();
    }

    private static void shut(Sentences promise) {
        promise.test("A ROAD is SHUT, or not: 1", """
            road(0, 1, 5, 0); road(0, 1, 5, 0); shut(1, true) 1; about(1, 4) 1; about(0, 4) 0
            shut(1, false) 1; about(1, 4) 0; shut(1, true) 1
            """);
        promise.test("0: it was so.", """
            road(0, 1, 5, 0); shut(0, false) 0; shut(0, true); shut(0, true) 0; about(0, 4) 1
            shut(0, false); shut(0, false) 0; about(0, 4) 0
            road(0, 1, 5, 2); wet(1, true) 1; shut(1, false) 0; shut(1, true) 1; shut(1, true) 0
            """);
        promise.test("UNKNOWN.", """
            shut(0, true) -1; shut(0, false) -1; road(0, 1, 5, 0); shut(1, true) -1; shut(-1, true) -1
            shut(MAX, true) -1; shut(MIN, false) -1; shut(16, true) -1
            """);
        promise.end();
    }

    private static void wet(Sentences promise) {
        promise.test("A FORD is wet, or not: 1", """
            road(0, 1, 5, 2); road(0, 1, 5, 2); wet(1, true) 1; about(1, 4) 1; about(0, 4) 0
            wet(1, false) 1; about(1, 4) 0; wet(1, true) 1; fault() 0
            """);
        promise.test("0: it was so.", """
            road(0, 1, 5, 2); wet(0, false) 0; wet(0, true); wet(0, true) 0; about(0, 4) 1
            wet(0, false); wet(0, false) 0; about(0, 4) 0; shut(0, true) 1; wet(0, false) 0
            wet(0, true) 1; fault() 0
            """);
        promise.test("UNKNOWN", """
            wet(0, true) -1; road(0, 1, 5, 2); wet(1, true) -1; wet(-1, true) -1; wet(MAX, false) -1
            wet(MIN, true) -1; fault() 0
            """);
        promise.test("CAST (a FAULT): it is none.", """
            road(0, 1, 5, 0); road(0, 1, 5, 1); wet(0, true) -12; fault() 2; about(0, 4) 0
            shut(9, true); wet(1, true) -12; fault() 2; about(1, 4) 0; wet(0, false) -12; wet(1, false) -12
            """);
        promise.end();
    }

    private static void about(Sentences promise) {
        promise.test("Of a ROAD: 0, 1 its SPOTS", """
            road(3, 7, 5, 0); road(9, 0, 5, 1); about(0, 0) 3; about(0, 1) 7; about(1, 0) 9; about(1, 1) 0
            """);
        promise.test("2 LENGTH", "road(3, 7, 1, 0); road(3, 7, 20000, 0); about(0, 2) 1; about(1, 2) 20000");
        promise.test("3 kind", """
            road(3, 7, 5, 0); road(3, 7, 5, 1); road(3, 7, 5, 2); about(0, 3) 0; about(1, 3) 1
            about(2, 3) 2
            """);
        promise.test("4 whether it is SHUT (a wet FORD, too: 1, 0)", """
            road(3, 7, 5, 0); road(3, 7, 5, 2); about(0, 4) 0; about(1, 4) 0
            shut(0, true); about(0, 4) 1; shut(0, false); about(0, 4) 0
            wet(1, true); about(1, 4) 1; shut(1, true); about(1, 4) 1; wet(1, false); about(1, 4) 1
            shut(1, false); about(1, 4) 0
            """);
        promise.test("5 its place in THE WAY LAID (NONE).", """
            road(1, 2, 5, 0); road(0, 1, 5, 0); road(0, 2, 50, 0); about(0, 5) -9; about(1, 5) -9
            spots(0, 2); ways() 1; about(0, 5) -9; lay() 2; about(0, 5) 1; about(1, 5) 0; about(2, 5) -9
            shut(0, true); about(0, 5) 1; lay() 1; about(0, 5) -9; about(1, 5) -9; about(2, 5) 0
            """);
        promise.test("UNKNOWN", """
            about(0, 0) -1; road(0, 1, 5, 0); about(1, 0) -1; about(-1, 0) -1; about(MAX, 5) -1
            about(MIN, 4) -1; about(1, 6) -1; about(-1, -1) -1
            """);
        promise.test("OUTSIDE.", """
            road(0, 1, 5, 0); about(0, -1) -2; about(0, 6) -2; about(0, MIN) -2; about(0, MAX) -2
            """);
        promise.end();
    }

    private static void tell(Sentences promise) {
        promise.test("TELLING of a ROAD.", """
            road(0, 1, 1, 0); road(0, 1, 20000, 1); road(0, 1, 70, 2); tell(0) 1; tell(1) 20001; tell(2) 70
            wet(2, true); tell(2) -70; wet(2, false); tell(2) 70; shut(0, true); tell(0) 1
            """);
        promise.test("UNKNOWN.", """
            tell(0) -1; road(0, 1, 5, 0); tell(1) -1; tell(-1) -1; tell(MAX) -1; tell(MIN) -1; trace() 0
            """);
        promise.end();
    }
}
