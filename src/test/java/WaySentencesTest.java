/** Part 2 of the document, the way laid, and promises 11 to 17: a test for each sentence. */
public final class WaySentencesTest {
    public static void main(String[] args) {
        Sentences way = Sentences.between("==== 2 ", "==== 3 CARS");
        theWayLaid(way);
        speeds(way);
        controls(way);
        watches(way);
        way.end();
        speed(Sentences.ofPromise(11));
        due(Sentences.ofPromise(12));
        roadAt(Sentences.ofPromise(13));
        control(Sentences.ofPromise(14));
        watch(Sentences.ofPromise(15));
        right(Sentences.ofPromise(16));
        strike(Sentences.ofPromise(17));
        Due.end();
    }

    private static void theWayLaid(Sentences way) {
        way.test("THE WAY LAID (the LEAST WAY, as it was found by lay())", """
            road(0, 1, 10, 0); road(0, 1, 20, 0); road(0, 1, 30, 2); spots(0, 1); ways() 1; told(1) 0
            lay() 1; laid(0) 0; shut(0, true); ways() 1; laid(0) 0; told(2) 10; roadAt(10) 0
            speed(10, 600) 1; control(10) 0; lay() 1; laid(0) 1; told(2) 20; spots(1, 0); told(1) 1; laid(0) 1
            """);
        way.test("has PLACES 0 to its sum of LENGTHS", """
            road(0, 1, 1, 0); road(1, 2, 2, 0); spots(0, 2); lay() 2; told(2) 3
            speed(0, 600) 1; speed(3, 600) 2; speed(4, 600) -2; speed(-1, 600) -2
            due(0) 0; due(3) 3; due(4) LOST; due(-1) LOST; roadAt(0) 0; roadAt(3) 1; roadAt(4) -2; roadAt(-1) -2
            control(3) 0; control(4) -2
            """);
        way.test("in metres from its beginning.", """
            road(1, 2, 20, 0); road(0, 1, 10, 0); spots(0, 2); lay() 2; roadAt(9) 1; roadAt(11) 0
            speed(0, 600); due(7) 7; spots(2, 0); lay() 2; roadAt(9) 0; roadAt(19) 0; roadAt(21) 1
            """);
    }

    private static void speeds(Sentences way) {
        way.test("SPEEDS, 8 at most", () -> {
            Run.of("way(80)").times(8, "speed(#0, 6) ; told(3)").then("told(3) 8; speed(5, 6) -4; speed(0, 7) -4")
                .then("told(3) 8; due(80) 8000; lay() 1; speed(0, 6) 1");
            Run.of("way(80)").times(8, "speed(0, 1#)").then("told(3) 8; speed(0, 6) -4; speed(1, 6) -4; due(17) 600");
        });
        way.test("from a PLACE on so many metres a minute (1 .. 3000)", """
            way(100); speed(0, 0) -2; speed(0, -1) -2; speed(0, 3001) -2; speed(0, MIN) -2; speed(0, MAX) -2
            told(3) 0; speed(0, 1) 1; due(1) 600; due(100) 60000; speed(50, 3000) 2; due(50) 30000
            due(55) 30001; due(100) 30010
            """);
        way.test("one from PLACE 0 on is needed", """
            way(100); control(100) 0; car(0, 0); clock(0, 0, 5); due(0) LOST; speed(1, 600) 1; due(0) LOST
            due(1) LOST; due(100) LOST; error(0, 0) LOST; points(0, 0) -3; result(0, 0) -3
            speed(0, 600) 2; due(0) 0; due(100) 100; error(0, 0) -95; points(0, 0) 20; result(0, 0) 20
            """);
        way.test("of several of one PLACE the latest told goes.", """
            way(1000); speed(0, 600) 1; speed(500, 300) 2; due(1000) 1500; speed(500, 60) 3; due(1000) 5500
            speed(0, 60) 4; due(500) 5000; due(1000) 10000; speed(500, 600) 5; due(1000) 5500
            speed(0, 3000) 6; due(500) 100; due(1000) 600; speed(0, 600) 7; due(1000) 1000
            """);
        way.test("DUE at a PLACE: for each stretch between two PLACES from which SPEEDS are told,"
            + " next to one another", () -> {
                Run.of("way(1000); speed(600, 60); speed(0, 600); speed(200, 300); due(200) 200; due(600) 1000")
                    .then("due(1000) 5000; speed(400, 1200) 4; due(600) 700; due(1000) 4700; speed(1000, 1) 5")
                    .then("due(1000) 4700");
                Run.of("way(80)").times(8, "speed(#0, 1)").then("""
                    speed(0, 1) -4; due(0) 0; due(10) 6000; due(20) 12000; due(79) 47400; due(80) 48000
                    """);
            });
        way.test("and for the last one up to it", """
            way(1000); speed(0, 600); speed(100, 300); due(0) 0; due(1) 1; due(99) 99; due(100) 100; due(101) 102
            due(1000) 1900; speed(200, 600) 3; due(199) 298; due(200) 300; due(201) 301; due(1000) 1100
            """);
        way.test("600 times its metres by the SPEED there, tenths of a second, cut", """
            way(20000); speed(0, 7); due(0) 0; due(1) 85; due(2) 171; due(7) 600; due(20000) 1714285
            speed(0, 601); due(1) 0; due(2) 1; due(601) 600; due(20000) 19966; speed(0, 599); due(1) 1
            speed(0, 3000); due(4) 0; due(5) 1; due(9) 1; due(20000) 4000
            """);
        way.test("the sum.", """
            way(100); speed(0, 700); due(1) 0; due(2) 1; speed(1, 700); due(2) 0; speed(2, 700); due(3) 0
            due(100) 84; speed(50, 7) 4; due(50) 41; due(100) 4326; speed(99, 700) 5; due(100) 4241
            """);
    }

    private static void controls(Sentences way) {
        way.test("CONTROLS, 8 at most", () -> Run.of("way(80)").times(8, "control(#1) #").then("""
            control(80) -4; told(4) 8; strike(7, true) 1; control(80) -4; strike(8, true) -1
            lay() 1; control(80) 0; told(4) 1
            """));
        way.test("each numbered by how many there are ahead of it (the first one 0)", """
            way(80); control(50) 0; control(10) 1; control(81) -2; control(10) -3; control(30) 2; told(4) 3
            speed(0, 600); car(0, 0); clock(0, 0, 50); clock(0, 1, 10); clock(0, 2, 30)
            error(0, 0) 0; error(0, 1) 0; error(0, 2) 0; lay() 1; control(80) 0
            """);
        way.test("each at a PLACE above 0", """
            way(80); control(0) -2; control(-1) -2; control(MIN) -2; told(4) 0; control(1) 0; control(80) 1
            """);
        way.test("none at one PLACE", """
            way(80); control(50) 0; control(50) -3; control(51) 1; control(49) 2; control(49) -3; told(4) 3
            strike(0, true) 1; control(50) -3; lay() 1; control(50) 0
            """);
        way.test("in the order of PLACES a car has to come to them.", """
            timed(80); control(50) 0; control(10) 1; control(30) 2; car(0, 0); car(0, 0)
            clock(0, 1, 10); clock(0, 2, 30); clock(0, 0, 50); result(0, 3) 0; result(0, 0) 0
            clock(1, 0, 50); clock(1, 1, 10); clock(1, 2, 30); result(1, 3) 2; result(1, 0) 200
            """);
    }

    private static void watches(Sentences way) {
        way.test("A WATCH at each", """
            way(80); control(10) 0; control(20) 1; watch(1, 0, 10, 0, 20) 1; right(0, 100) 100; right(1, 100) 50
            watch(0, 0, 10, 0, 5) 1; right(0, 100) 200; right(1, 100) 50
            """);
        way.test("two checks, at true times a, b (tenths, 0 .. 1000000", """
            way(80); control(10); watch(0, -1, 1, 0, 1) -2; watch(0, 0, 1000001, 0, 1) -2
            watch(0, MIN, 1, 0, 1) -2; watch(0, 0, MAX, 0, 1) -2; watch(0, 1000000, 1000001, 0, 1) -2
            right(0, 9) 9; watch(0, 0, 1000000, 0, 1000000) 1; right(0, 9) 9
            """);
        way.test("a below b)", """
            way(80); control(10); watch(0, 5, 5, 0, 1) -2; watch(0, 6, 5, 0, 1) -2
            watch(0, 1000000, 1000000, 0, 1) -2; watch(0, 1000000, 0, 0, 1) -2; right(0, 9) 9
            watch(0, 5, 6, 0, 1) 1; right(0, 9) 14
            """);
        way.test("showing c, d (0 .. 1000000", """
            way(80); control(10); watch(0, 0, 1, -1, 1) -2; watch(0, 0, 1, 0, 1000001) -2
            watch(0, 0, 1, MIN, 1) -2; watch(0, 0, 1, 0, MAX) -2; right(0, 9) 9
            watch(0, 0, 1, 0, 1000000) 1; right(0, 999999) 0; right(0, 1000000) 1
            """);
        way.test("c below d)", """
            way(80); control(10); watch(0, 0, 1, 5, 5) -2; watch(0, 0, 1, 6, 5) -2; watch(0, 0, 1, 0, 0) -2
            watch(0, 0, 1, 1000000, 0) -2; right(0, 9) 9; watch(0, 0, 1, 5, 6) 1; right(0, 9) 4
            """);
        way.test("a time t on it is put right: a + (t - c) (b - a) by (d - c).", """
            way(80); control(10); watch(0, 100, 200, 50, 350) 1; right(0, 50) 100; right(0, 350) 200
            right(0, 200) 150; right(0, 52) 100; right(0, 53) 101; right(0, 650) 300; right(0, 47) 99
            right(0, 48) 100; right(0, 0) 84; watch(0, 0, 1000000, 999999, 1000000) 1
            right(0, 0) -999999000000; watch(0, 0, 1000000, 0, 1) 1; right(0, 1000000) 1000000000000
            """);
        way.test("Without checks it is right.", """
            timed(80); control(10); right(0, 0) 0; right(0, 1) 1; right(0, 1000000) 1000000; car(0, 0)
            clock(0, 0, 15); error(0, 0) 5; watch(0, 0, 0, 0, 1) -2; right(0, 7) 7; watch(0, 3, 4, 3, 5) 1
            right(0, 7) 5; lay() 1; control(10) 0; right(0, 7) 7
            """);
    }

    private static void speed(Sentences promise) {
        promise.test("A SPEED: how many there are.", """
            way(50); speed(50, 600) 1; speed(0, 600) 2; speed(0, 300) 3; told(3) 3; due(50) 100; lay() 1
            speed(0, 600) 1
            """);
        promise.test("OUTSIDE: v", """
            speed(0, 0) -2; way(50); speed(0, 0) -2; speed(0, 3001) -2; speed(0, -1) -2; speed(0, MIN) -2
            speed(0, MAX) -2; told(3) 0; speed(0, 1) 1; speed(0, 3000) 2
            """);
        promise.test("STATE: no WAY is laid", """
            speed(0, 600) -3; speed(-1, 600) -3; road(0, 1, 5, 0); spots(0, 1); ways() 1; speed(0, 600) -3
            shut(0, true); lay() -9; speed(0, 600) -3; told(3) 0; shut(0, false); lay() 1; speed(0, 600) 1
            """);
        promise.test("OUTSIDE: place is not 0 to its end", """
            way(50); speed(-1, 600) -2; speed(51, 600) -2; speed(MIN, 600) -2; speed(MAX, 600) -2; told(3) 0
            speed(0, 600) 1; speed(50, 600) 2
            """);
        promise.test("FULL.", () -> Run.of("way(50)").times(8, "speed(50, 1#)").then("""
            speed(0, 600) -4; speed(50, 600) -4; speed(51, 600) -2; speed(-1, 600) -2; speed(0, 0) -2
            told(3) 8; due(0) LOST
            """));
        promise.end();
    }

    private static void due(Sentences promise) {
        promise.test("DUE at a PLACE.", () -> {
            Run.of("way(100); speed(0, 300); speed(50, 600); due(0) 0; due(50) 100; due(60) 110; due(100) 150");
            Run.of("""
                road(0, 1, 20000, 0); road(1, 2, 20000, 0); road(2, 3, 20000, 0); road(3, 4, 20000, 0)
                road(4, 5, 20000, 0); road(5, 6, 20000, 0); road(6, 7, 20000, 0); road(7, 8, 20000, 0)
                road(8, 9, 20000, 0); road(9, 0, 20000, 1); spots(0, 9, 0); lay() 10; told(2) 200000
                speed(0, 1); due(200000) 120000000; due(200001) LOST
                """);
        });
        promise.test("LOST: STATE: no WAY is laid", """
            due(0) LOST; due(1) LOST; due(-1) LOST; road(0, 1, 5, 0); spots(0, 1); ways() 1; due(0) LOST
            """);
        promise.test("no SPEED from PLACE 0 on", """
            way(50); due(0) LOST; due(50) LOST; speed(1, 600); speed(50, 600); due(0) LOST; due(50) LOST
            speed(0, 600); due(0) 0; due(50) 50; lay() 1; due(0) LOST
            """);
        promise.test("OUTSIDE.", """
            timed(50); due(-1) LOST; due(51) LOST; due(MIN) LOST; due(MAX) LOST; due(0) 0; due(50) 50
            """);
        promise.end();
    }

    private static void roadAt(Sentences promise) {
        String threeRoads = "road(2, 3, 30, 0); road(1, 2, 1, 0); road(0, 1, 10, 0); spots(0, 3); lay() 3;";
        promise.test("The ROAD at a PLACE", threeRoads + "roadAt(0) 2; roadAt(5) 2; roadAt(20) 0; roadAt(40) 0");
        promise.test("(where one ends and the next begins, the next", threeRoads + """
            roadAt(9) 2; roadAt(10) 1; roadAt(11) 0; roadAt(12) 0
            """);
        promise.test("at the end the last).", threeRoads + """
            roadAt(40) 0; roadAt(41) 0; spots(0, 1); lay() 1; roadAt(10) 2; roadAt(0) 2; roadAt(11) -2
            """);
        promise.test("STATE: no WAY is laid", """
            roadAt(0) -3; roadAt(-1) -3; roadAt(1) -3; road(0, 1, 5, 0); spots(0, 1); ways() 1; roadAt(0) -3
            """);
        promise.test("OUTSIDE.", threeRoads + "roadAt(-1) -2; roadAt(42) -2; roadAt(MIN) -2; roadAt(MAX) -2");
        promise.end();
    }

    private static void control(Sentences promise) {
        promise.test("A CONTROL more: its number.", """
            way(50); control(30) 0; control(50) 1; control(1) 2; told(4) 3; strike(2, true) 1; strike(3, true) -1
            """);
        promise.test("STATE: no WAY is laid", """
            control(1) -3; control(0) -3; control(-1) -3; road(0, 1, 5, 0); spots(0, 1); ways() 1; control(1) -3
            shut(0, true); lay() -9; control(1) -3; told(4) 0
            """);
        promise.test("OUTSIDE: place is not 1 to its end", """
            way(50); control(0) -2; control(51) -2; control(-1) -2; control(MIN) -2; control(MAX) -2; told(4) 0
            control(1) 0; control(50) 1
            """);
        promise.test("STATE: there is one", """
            way(50); control(7) 0; control(7) -3; control(8) 1; control(8) -3; control(7) -3; control(6) 2
            told(4) 3
            """);
        promise.test("FULL.", () -> Run.of("way(90)").times(8, "control(#5) #").then("""
            control(90) -4; control(1) -4; control(75) -3; control(5) -3; control(0) -2; control(91) -2; told(4) 8
            """));
        promise.end();
    }

    private static void watch(Sentences promise) {
        promise.test("Checks of a CONTROL's WATCH: 1.", """
            way(50); control(7); control(9); watch(0, 0, 1, 0, 2) 1; right(0, 10) 5; right(1, 10) 10
            watch(0, 0, 1, 0, 2) 1; right(0, 10) 5; watch(0, 0, 3, 0, 1) 1; right(0, 10) 30
            watch(1, 999999, 1000000, 999999, 1000000) 1; right(1, 10) 10
            """);
        promise.test("UNKNOWN", """
            watch(0, 0, 1, 0, 1) -1; way(50); watch(0, 0, 1, 0, 1) -1; control(7); watch(1, 0, 1, 0, 1) -1
            watch(-1, 0, 1, 0, 1) -1; watch(MAX, 0, 1, 0, 1) -1; watch(MIN, 0, 1, 0, 1) -1; watch(1, 1, 1, 0, 1) -1
            watch(8, -1, -1, -1, -1) -1
            """);
        promise.test("OUTSIDE.", """
            way(50); control(7); watch(0, -1, 1, 0, 1) -2; watch(0, 0, 1000001, 0, 1) -2
            watch(0, 0, 1, -1, 1) -2; watch(0, 0, 1, 0, 1000001) -2; watch(0, 1, 1, 0, 1) -2
            watch(0, 0, 1, 1, 1) -2; watch(0, 2, 1, 0, 1) -2; watch(0, 0, 1, 2, 1) -2
            watch(0, MIN, MAX, MIN, MAX) -2; watch(0, MAX, MIN, 0, 1) -2; watch(0, 0, 1, MAX, MIN) -2
            right(0, 500) 500; watch(0, 0, 1000000, 0, 1000000) 1
            """);
        promise.end();
    }

    private static void right(Sentences promise) {
        promise.test("A time on it put right.", """
            way(50); control(7); right(0, 8) 8; watch(0, 100, 110, 0, 20) 1; right(0, 0) 100; right(0, 8) 104
            right(0, 9) 104; right(0, 1000000) 500100
            """);
        promise.test("LOST: UNKNOWN", """
            right(0, 5) LOST; way(50); right(0, 5) LOST; control(7); right(1, 5) LOST; right(-1, 5) LOST
            right(MAX, 5) LOST; right(MIN, 5) LOST; right(8, 5) LOST; right(0, 5) 5
            """);
        promise.test("OUTSIDE: t is not 0 .. 1000000.", """
            way(50); control(7); right(0, -1) LOST; right(0, 1000001) LOST; right(0, MIN) LOST; right(0, MAX) LOST
            right(0, 0) 0; right(0, 1000000) 1000000; watch(0, 0, 1, 0, 2); right(0, -1) LOST
            right(0, 1000001) LOST
            """);
        promise.end();
    }

    private static void strike(Sentences promise) {
        promise.test("A CONTROL is STRUCK, or not: 1", """
            timed(50); control(7); control(9); car(0, 0); result(0, 0) 600; strike(0, true) 1; points(0, 0) 0
            points(0, 1) 300; result(0, 0) 300; strike(0, false) 1; result(0, 0) 600; strike(1, true) 1
            points(0, 1) 0
            """);
        promise.test("0: it was so.", """
            timed(50); control(7); control(9); strike(0, false) 0; strike(0, true); strike(0, true) 0
            strike(1, false) 0; strike(0, false); strike(0, false) 0; car(0, 0); points(0, 0) 300
            """);
        promise.test("UNKNOWN.", """
            strike(0, true) -1; way(50); strike(0, false) -1; control(7); strike(1, true) -1; strike(-1, true) -1
            strike(MAX, true) -1; strike(MIN, true) -1; strike(8, true) -1
            """);
        promise.end();
    }
}
