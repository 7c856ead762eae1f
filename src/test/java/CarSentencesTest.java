/** Part 3 of the document, cars, and promises 18 to 23: a test for each of their sentences. */
public final class CarSentencesTest {
    /** Three cars, one of each class, that all start at 0. */
    private static final String ONE_OF_EACH = "car(0, 0) 0; car(0, 1) 1; car(0, 2) 2;";

    public static void main(String[] args) {
        Sentences cars = Sentences.between("==== 3 ", "==== 4 SHEETS");
        cars(cars);
        clocks(cars);
        errors(cars);
        carriedOn(cars);
        points(cars);
        struck(cars);
        totals(cars);
        cars.end();
        car(Sentences.ofPromise(18));
        clock(Sentences.ofPromise(19));
        allow(Sentences.ofPromise(20));
        error(Sentences.ofPromise(21));
        pointsPromised(Sentences.ofPromise(22));
        result(Sentences.ofPromise(23));
        Due.end();
    }

    private static void cars(Sentences cars) {
        cars.test("CARS, 8 ever", () -> Run.of("").times(8, "car(0, 0) #").then("""
            car(0, 0) -4; told(5) 8; greet(7) 70; greet(8) -1; way(5); car(0, 0) -4; lay() 1; car(0, 0) -4
            """));
        cars.test("numbered as they come", """
            car(5, 2) 0; car(-1, 0) -2; car(0, 0) 1; car(0, 1) 2; greet(0) 8; greet(1) 10; greet(2) 7; told(5) 3
            """);
        cars.test("each with a START (tenths, 0 .. 500000)", """
            car(-1, 0) -2; car(500001, 0) -2; car(MIN, 0) -2; car(MAX, 0) -2; told(5) 0
            car(0, 0) 0; car(500000, 0) 1; timed(5); control(5); clock(0, 0, 5); clock(1, 0, 500005)
            error(0, 0) 0; error(1, 0) 0
            """);
        cars.test("and a class: 0 CAR", """
            car(0, -1) -2; car(0, 3) -2; car(0, MIN) -2; car(0, MAX) -2; told(5) 0
            car(0, 0) 0; as(0, 0) 1; as(0, 1) -12; as(0, 2) -12
            """);
        cars.test("1 OLD, a CAR", "car(0, 1) 0; as(0, 0) 1; as(0, 1) 1; as(0, 2) -12");
        cars.test("2 NOVICE, an OLD one.", "car(0, 2) 0; as(0, 0) 1; as(0, 1) 1; as(0, 2) 1");
    }

    private static void clocks(Sentences cars) {
        cars.test("CLOCKED: a CAR at a CONTROL, once", """
            timed(50); control(10); control(20); car(0, 0); car(0, 0); clock(0, 0, 15) 1; clock(0, 0, 15) -3
            clock(0, 0, 10) -3; error(0, 0) 5; clock(0, 1, 20) 1; strike(0, true) 1; clock(1, 0, 10) 1
            clock(1, 0, 10) -3; clock(0, 1, 21) -3; error(1, 0) 0; error(0, 1) 0
            """);
        cars.test("by its WATCH (tenths, 0 .. 1000000)", """
            timed(50); control(10); control(20); car(0, 0); clock(0, 0, -1) -2; clock(0, 0, 1000001) -2
            clock(0, 0, MIN) -2; clock(0, 0, MAX) -2; error(0, 0) LOST; clock(0, 0, 0) 1; error(0, 0) -10
            clock(0, 1, 1000000) 1; error(0, 1) 999980; watch(1, 0, 1000, 0, 1000000) 1; error(0, 1) 980
            """);
        cars.test("the order in which this is told is that in which it came there.", """
            timed(50); control(10); control(20); car(0, 0); car(0, 0)
            clock(0, 0, 900); clock(0, 1, 20); result(0, 3) 0; points(0, 0) 89
            clock(1, 1, 900); clock(1, 0, 10); result(1, 3) 1; points(1, 0) 100; points(1, 1) 88
            """);
        cars.test("ALLOWANCE of a CAR at a CONTROL: 0 .. 3000 tenths that it claims.", """
            timed(50); control(10); control(20); car(0, 0); car(0, 0); allow(0, 0, -1) -2; allow(0, 0, 3001) -2
            allow(0, 0, MIN) -2; allow(0, 0, MAX) -2; allow(0, 0, 3000) 0; allow(0, 0, 0) 3000; allow(0, 0, 7) 0
            allow(0, 1, 8) 0; allow(1, 0, 9) 0; clock(0, 0, 110); clock(0, 1, 120); clock(1, 0, 110)
            error(0, 0) 93; error(0, 1) 85; error(1, 0) 91
            """);
    }

    private static void errors(Sentences cars) {
        cars.test("ERROR of a CAR at a CONTROL where it was CLOCKED", """
            timed(50); control(10); control(20); car(0, 0); error(0, 0) LOST; clock(0, 0, 11); error(0, 0) 1
            error(0, 1) LOST; clock(0, 1, 18); error(0, 1) -2
            """);
        cars.test(": its time put right", """
            timed(50); control(10); car(0, 0); clock(0, 0, 30); error(0, 0) 20; watch(0, 0, 10, 0, 20) 1
            error(0, 0) 5; watch(0, 0, 1, 0, 3) 1; error(0, 0) 0; watch(0, 0, 1000000, 0, 1) 1
            error(0, 0) 29999990; watch(0, 0, 1000000, 999999, 1000000) 1; error(0, 0) -999969000010
            """);
        cars.test("less START", """
            timed(50); control(10); car(0, 0); car(15, 0); car(500000, 0); clock(0, 0, 20); clock(1, 0, 20)
            clock(2, 0, 20); error(0, 0) 10; error(1, 0) -5; error(2, 0) -499990
            """);
        cars.test("less DUE there", """
            timed(50); control(10); control(50); car(0, 0); clock(0, 0, 100); clock(0, 1, 100); error(0, 0) 90
            error(0, 1) 50; speed(10, 300); error(0, 0) 90; error(0, 1) 10; speed(0, 60); error(0, 0) 0
            error(0, 1) -80
            """);
    }

    private static void carriedOn(Sentences cars) {
        cars.test("less what it carries on: the sum of its ALLOWANCES at CONTROLS up to here", """
            timed(50); control(10); control(20); control(30); car(0, 0); car(0, 0); clock(0, 0, 110)
            clock(0, 1, 120); clock(0, 2, 130); clock(1, 2, 130); allow(0, 0, 1); allow(0, 1, 2); allow(0, 2, 4)
            error(0, 0) 99; error(0, 1) 97; error(0, 2) 93; error(1, 2) 100
            """);
        cars.test("(by PLACES", """
            timed(50); control(30); control(10); control(20); car(0, 0); clock(0, 1, 110); clock(0, 2, 120)
            clock(0, 0, 130); allow(0, 0, 4); allow(0, 1, 1); allow(0, 2, 2)
            error(0, 1) 99; error(0, 2) 97; error(0, 0) 93
            """);
        cars.test("this one", """
            timed(50); control(10); car(0, 0); clock(0, 0, 110); error(0, 0) 100; allow(0, 0, 30); error(0, 0) 70
            """);
        cars.test("STRUCK and MISSED ones, too)", """
            timed(50); control(10); control(20); control(30); car(0, 0); allow(0, 0, 1); allow(0, 1, 2)
            clock(0, 1, 120); clock(0, 2, 130); error(0, 2) 97; strike(1, true); error(0, 2) 97
            strike(0, true); error(0, 2) 97; error(0, 1) 97
            """);
        cars.test("each not beyond 600", """
            timed(50); control(10); control(20); car(0, 0); clock(0, 0, 5010); clock(0, 1, 5020)
            allow(0, 0, 599); error(0, 0) 4401; allow(0, 0, 600); error(0, 0) 4400; allow(0, 0, 601)
            error(0, 0) 4400; allow(0, 0, 3000) 601; error(0, 0) 4400; allow(0, 1, 10); error(0, 1) 4390
            """);
        cars.test("all together not beyond 1500", """
            timed(50); control(10); control(20); control(30); control(40); car(0, 0); clock(0, 2, 5030)
            clock(0, 3, 5040); allow(0, 0, 600); allow(0, 1, 600); allow(0, 2, 299); error(0, 2) 3501
            allow(0, 2, 300); error(0, 2) 3500; allow(0, 2, 301); error(0, 2) 3500; allow(0, 3, 3000)
            error(0, 3) 3500; allow(0, 0, 0); error(0, 3) 3500; allow(0, 1, 0); error(0, 3) 4099
            """);
        cars.test("it makes an ERROR above 0 less (to 0 at least)", """
            timed(50); control(10); car(0, 0); clock(0, 0, 110); allow(0, 0, 99); error(0, 0) 1; allow(0, 0, 100)
            error(0, 0) 0; allow(0, 0, 101); error(0, 0) 0; points(0, 0) 0; allow(0, 0, 3000); error(0, 0) 0
            """);
        cars.test("no other.", """
            timed(50); control(10); control(20); control(30); car(0, 0); clock(0, 0, 10); clock(0, 1, 19)
            clock(0, 2, 31); allow(0, 0, 5); error(0, 0) 0; error(0, 1) -1; error(0, 2) 0; points(0, 1) 2
            """);
    }

    /** The points of cars that are so many tenths late, or early below 0, at 10000 metres. */
    private static void pointsAre(int kind, int[] tenths, int[] points) {
        for (int k = 0; k < tenths.length; k++) {
            Run.of("timed(10000); control(10000); car(0, " + kind + "); clock(0, 0, " + (10000 + tenths[k])
                + "); error(0, 0) " + tenths[k] + "; points(0, 0) " + points[k] + "; result(0, 0) " + points[k]);
        }
    }

    private static void points(Sentences cars) {
        cars.test("POINTS there: ERROR below 0: 2 for each second (10 tenths) begun", () -> pointsAre(0,
            new int[] {0, -1, -9, -10, -11, -20, -21, -1490}, new int[] {0, 2, 2, 2, 4, 4, 6, 298}));
        cars.test("above 0: 1 for each", () -> pointsAre(0,
            new int[] {0, 1, 9, 10, 11, 20, 21, 2990}, new int[] {0, 1, 1, 1, 2, 2, 3, 299}));
        cars.test("at most 300", () -> {
            pointsAre(0, new int[] {2991, 3000, 3001, 5000}, new int[] {300, 300, 300, 300});
            pointsAre(0, new int[] {-1491, -1500, -1501, -3000, -9999}, new int[] {300, 300, 300, 300, 300});
            Run.of("timed(50); control(10); car(0, 0); clock(0, 0, 1000000); points(0, 0) 300")
                .then("watch(0, 0, 1000000, 0, 1); points(0, 0) 300; watch(0, 0, 1000000, 999998, 999999)")
                .then("points(0, 0) 300; watch(0, 0, 1, 999999, 1000000); points(0, 0) 2; lay(); speed(0, 600)")
                .then("control(10); watch(0, 0, 1000000, 999999, 1000000); clock(0, 0, 0); points(0, 0) 300");
        });
        cars.test("OLD: half of them (cut)", () -> pointsAre(1,
            new int[] {0, 1, 10, 11, 30, -1, -11, -21, 2990, 3000, 9000, -9000},
            new int[] {0, 0, 0, 1, 1, 1, 2, 3, 149, 150, 150, 150}));
        cars.test("NOVICE: as OLD", () -> pointsAre(2,
            new int[] {0, 1, 10, 11, 30, -1, -11, -21, 990, -480}, new int[] {0, 0, 0, 1, 1, 1, 2, 3, 49, 48}));
        cars.test("and 50 at most.", () -> pointsAre(2,
            new int[] {1000, 1001, 1011, 2000, 9000, -491, -500, -501, -9000},
            new int[] {50, 50, 50, 50, 50, 50, 50, 50, 50}));
        cars.test("MISSED (not CLOCKED): 300", """
            timed(50); control(10); control(20); car(0, 0); points(0, 0) 300; points(0, 1) 300; clock(0, 1, 20)
            points(0, 0) 300; points(0, 1) 0; allow(0, 0, 3000); points(0, 0) 300; result(0, 0) 300
            result(0, 2) 1; result(0, 3) 0
            """);
        cars.test("OLD and NOVICE, too.", """
            timed(50); control(10); car(0, 1); car(0, 2); points(0, 0) 300; points(1, 0) 300; result(0, 0) 300
            result(1, 0) 300
            """);
        cars.test("OUT OF ORDER (CLOCKED there later than at one of a greater PLACE): 100 instead", """
            timed(50); control(30); control(10); control(20); car(0, 0); car(0, 0); car(0, 0); car(0, 0)
            clock(0, 2, 20); clock(0, 1, 10); clock(0, 0, 30)
            points(0, 0) 0; points(0, 1) 100; points(0, 2) 0; error(0, 1) 0
            clock(1, 0, 30); clock(1, 1, 9999); clock(1, 2, 20); points(1, 0) 0; points(1, 1) 100; points(1, 2) 100
            clock(2, 0, 30); points(2, 1) 300; points(2, 2) 300; clock(2, 1, 10); points(2, 1) 100
            clock(3, 1, 10); clock(3, 2, 20); clock(3, 0, 30); result(3, 0) 0
            """);
        cars.test("for any class.", ONE_OF_EACH + """
            timed(50); control(10); control(20); clock(0, 1, 20); clock(1, 1, 20); clock(2, 1, 20)
            clock(0, 0, 10); clock(1, 0, 10); clock(2, 0, 10); points(0, 0) 100; points(1, 0) 100
            points(2, 0) 100; result(2, 0) 100
            """);
    }

    private static void struck(Sentences cars) {
        cars.test("A CONTROL that is STRUCK counts nothing for any", ONE_OF_EACH + """
            timed(50); control(10); control(20); control(30); clock(0, 0, 15); clock(1, 2, 30); clock(1, 0, 15)
            result(0, 0) 601; result(1, 0) 400; result(2, 0) 900
            strike(0, true); points(0, 0) 0; points(1, 0) 0; points(2, 0) 0; result(0, 0) 600; result(1, 0) 300
            result(2, 0) 600; result(0, 2) 2; result(1, 3) 0; strike(2, true); result(2, 0) 300; result(1, 0) 300
            strike(1, true); result(0, 0) 0; result(2, 0) 0; result(2, 2) 0
            """);
        cars.test("what is OUT OF ORDER by a STRUCK one alone is not.", """
            timed(50); control(10); control(20); control(30); car(0, 0); clock(0, 2, 30); clock(0, 1, 20)
            clock(0, 0, 15); result(0, 3) 2; strike(2, true); points(0, 1) 0; points(0, 0) 100; result(0, 3) 1
            strike(1, true); points(0, 0) 1; result(0, 3) 0; strike(2, false); points(0, 0) 100; result(0, 3) 1
            """);
    }

    private static void totals(Sentences cars) {
        cars.test("TOTAL of a CAR: the sum of POINTS.", () -> {
            Run.of("timed(50); car(0, 0); result(0, 0) 0; control(10); control(20); control(30); control(40)")
                .then("clock(0, 0, 21); clock(0, 2, 30); clock(0, 1, 20); points(0, 0) 2; points(0, 1) 100")
                .then("points(0, 2) 0; points(0, 3) 300; result(0, 0) 402; strike(1, true); result(0, 0) 302");
            Run.of("timed(50); car(0, 0)").times(8, "control(1#)").then("result(0, 0) 2400");
        });
        cars.test("RANK: 1 and how many CARS are better: with less TOTAL", """
            timed(50); control(10); car(0, 0); result(0, 1) 1; car(0, 0); car(0, 0); car(0, 0); clock(0, 0, 30)
            clock(1, 0, 10); clock(2, 0, 20); result(0, 1) 3; result(1, 1) 1; result(2, 1) 2; result(3, 1) 4
            clock(3, 0, 9); result(3, 1) 4; result(0, 0) 2; result(3, 0) 2
            """);
        cars.test("of like ones the one with less POINTS at the first CONTROL (by PLACES", """
            timed(50); control(30); control(20); control(10); car(0, 0); car(0, 0); car(0, 0)
            clock(0, 2, 30); clock(0, 1, 30); clock(0, 0, 30)
            clock(1, 2, 10); clock(1, 1, 20); clock(1, 0, 60)
            clock(2, 2, 10); clock(2, 1, 50); clock(2, 0, 30)
            result(0, 0) 3; result(1, 0) 3; result(2, 0) 3; result(0, 1) 3; result(1, 1) 1; result(2, 1) 2
            """);
        cars.test("not STRUCK)", """
            timed(50); control(10); control(20); control(30); car(0, 0); car(0, 0)
            clock(0, 0, 10); clock(0, 1, 30); clock(0, 2, 30); clock(1, 0, 30); clock(1, 1, 20); clock(1, 2, 40)
            result(0, 1) 1; result(1, 1) 2; strike(0, true); result(0, 0) 1; result(1, 0) 1
            result(0, 1) 2; result(1, 1) 1
            """);
        cars.test("where these are unlike", """
            timed(50); control(49); control(50); car(0, 0); car(0, 0); car(0, 0)
            clock(0, 0, 59); clock(0, 1, 60); clock(1, 0, 59); clock(1, 1, 60); clock(2, 0, 49); clock(2, 1, 70)
            result(0, 1) 2; result(1, 1) 3; result(2, 1) 1
            """);
        cars.test("if there is none, the one of less number.", () -> {
            Run.of("timed(50)").times(8, "car(#, 0) #").times(8, "result(#, 1)").then("control(50)")
                .times(8, "clock(#, 0, 5#)").then("result(0, 1) 1; result(3, 1) 4; result(7, 1) 8; result(7, 0) 0");
            Run.of("timed(50); control(10); car(0, 0); car(5, 0); car(0, 2); clock(0, 0, 21); clock(1, 0, 26)")
                .then("clock(2, 0, 41); points(2, 0) 2; result(0, 1) 1; result(1, 1) 2; result(2, 1) 3");
        });
    }

    private static void car(Sentences promise) {
        promise.test("A CAR more: its number.", "car(0, 0) 0; car(0, 0) 1; car(9, 2) 2; told(5) 3; greet(2) 8");
        promise.test("OUTSIDE: start", """
            car(-1, 0) -2; car(500001, 0) -2; car(MIN, 0) -2; car(MAX, 0) -2; car(-1, 3) -2; told(5) 0
            car(0, 0) 0; car(500000, 0) 1
            """);
        promise.test("class", """
            car(0, -1) -2; car(0, 3) -2; car(0, MIN) -2; car(0, MAX) -2; told(5) 0; car(0, 0) 0; car(0, 1) 1
            car(0, 2) 2
            """);
        promise.test("FULL.", () -> Run.of("").times(8, "car(#, 0) #").then("""
            car(0, 0) -4; car(500001, 0) -2; car(0, 3) -2; told(5) 8
            """));
        promise.end();
    }

    private static void clock(Sentences promise) {
        promise.test("A CAR is CLOCKED: 1.", """
            timed(50); control(10); car(0, 0); clock(0, 0, 12) 1; error(0, 0) 2; result(0, 2) 0
            """);
        promise.test("UNKNOWN: CAR", """
            timed(50); control(10); clock(0, 0, 5) -1; car(0, 0); clock(1, 0, 5) -1; clock(-1, 0, 5) -1
            clock(MAX, 0, 5) -1; clock(MIN, 0, 5) -1; clock(8, 0, -1) -1; result(0, 2) 1
            """);
        promise.test("CONTROL", """
            car(0, 0); clock(0, 0, 5) -1; timed(50); clock(0, 0, 5) -1; control(10); clock(0, 1, 5) -1
            clock(0, -1, 5) -1; clock(0, MAX, 5) -1; clock(0, MIN, 5) -1; clock(0, 8, -1) -1; result(0, 2) 1
            """);
        promise.test("OUTSIDE", """
            timed(50); control(10); control(20); car(0, 0); clock(0, 0, -1) -2; clock(0, 0, 1000001) -2
            clock(0, 0, MIN) -2; clock(0, 0, MAX) -2; result(0, 2) 2; clock(0, 0, 0) 1; clock(0, 0, -1) -2
            clock(0, 1, 1000000) 1
            """);
        promise.test("STATE: it was.", """
            timed(50); control(10); control(20); car(0, 0); clock(0, 1, 25) 1; clock(0, 0, 10) 1
            clock(0, 1, 99) -3; clock(0, 0, 99) -3; error(0, 1) 5; error(0, 0) 0; result(0, 3) 1
            strike(1, true); clock(0, 1, 99) -3; strike(1, false); clock(0, 1, 25) -3
            """);
        promise.end();
    }

    private static void allow(Sentences promise) {
        promise.test("An ALLOWANCE becomes a: what it was.", """
            timed(50); control(10); control(20); car(0, 0); car(0, 0); allow(0, 1, 5) 0; allow(0, 1, 3000) 5
            allow(0, 1, 700) 3000; allow(0, 1, 0) 700; allow(0, 1, 0) 0; allow(0, 0, 1) 0; allow(1, 1, 1) 0
            strike(0, true); allow(0, 0, 9) 1; clock(0, 0, 100); allow(0, 0, 2) 9; error(0, 0) 88
            """);
        promise.test("UNKNOWN", """
            allow(0, 0, 5) -1; car(0, 0); allow(0, 0, 5) -1; timed(50); allow(0, 0, 5) -1; control(10)
            allow(1, 0, 5) -1; allow(-1, 0, 5) -1; allow(0, 1, 5) -1; allow(0, -1, 5) -1; allow(MAX, 0, 5) -1
            allow(0, MIN, 5) -1; allow(1, 1, -1) -1; allow(0, 8, 3001) -1; allow(0, 0, 0) 0
            """);
        promise.test("OUTSIDE.", """
            timed(50); control(10); car(0, 0); allow(0, 0, 7) 0; allow(0, 0, -1) -2; allow(0, 0, 3001) -2
            allow(0, 0, MIN) -2; allow(0, 0, MAX) -2; allow(0, 0, 3000) 7; allow(0, 0, 0) 3000
            """);
        promise.end();
    }

    private static void error(Sentences promise) {
        promise.test("ERROR.", """
            timed(50); control(10); control(20); car(5, 1); clock(0, 0, 13); clock(0, 1, 45); allow(0, 0, 3)
            error(0, 0) -2; error(0, 1) 17; strike(1, true); error(0, 1) 17
            """);
        promise.test("LOST: UNKNOWN", """
            error(0, 0) LOST; timed(50); control(10); error(0, 0) LOST; car(0, 0); clock(0, 0, 10)
            error(1, 0) LOST; error(0, 1) LOST; error(-1, 0) LOST; error(0, -1) LOST; error(MAX, MIN) LOST
            error(8, 8) LOST; error(0, 0) 0
            """);
        promise.test("STATE: it was not CLOCKED there", """
            timed(50); control(10); control(20); car(0, 0); car(0, 0); error(0, 0) LOST; clock(0, 1, 20)
            error(0, 0) LOST; error(1, 1) LOST; error(0, 1) 0; lay(); speed(0, 600); control(10); control(20)
            error(0, 1) LOST
            """);
        promise.test("there is no DUE.", """
            way(50); control(10); car(0, 0); clock(0, 0, 10); error(0, 0) LOST; speed(10, 600); error(0, 0) LOST
            speed(0, 600); error(0, 0) 0
            """);
        promise.end();
    }

    private static void pointsPromised(Sentences promise) {
        promise.test("POINTS of a CAR at a CONTROL", ONE_OF_EACH + """
            timed(50); control(10); control(20); clock(0, 0, 51); clock(1, 0, 51); clock(2, 1, 20); clock(2, 0, 10)
            points(0, 0) 5; points(1, 0) 2; points(2, 0) 100; points(0, 1) 300; points(2, 1) 0
            """);
        promise.test("(0, where it is STRUCK).", ONE_OF_EACH + """
            timed(50); control(10); control(20); strike(0, true); points(0, 0) 0; clock(1, 0, 99); points(1, 0) 0
            clock(2, 1, 20); clock(2, 0, 10); points(2, 0) 0; strike(0, false); points(0, 0) 300; points(1, 0) 4
            points(2, 0) 100
            """);
        promise.test("UNKNOWN", """
            points(0, 0) -1; timed(50); car(0, 0); points(0, 0) -1; control(10); points(0, 0) 300
            points(1, 0) -1; points(0, 1) -1; points(-1, 0) -1; points(0, -1) -1; points(MAX, 0) -1
            points(0, MIN) -1; points(8, 8) -1; lay(); points(0, 0) -1
            """);
        promise.test("STATE: there is no SPEED from PLACE 0 on.", """
            way(50); control(10); car(0, 0); points(0, 0) -3; points(1, 0) -1; points(0, 1) -1; clock(0, 0, 10)
            points(0, 0) -3; strike(0, true); points(0, 0) -3; strike(0, false); speed(1, 600); points(0, 0) -3
            speed(0, 600); points(0, 0) 0
            """);
        promise.end();
    }

    private static void result(Sentences promise) {
        promise.test("TOTAL (what 0)", """
            timed(50); control(10); control(20); car(0, 0); result(0, 0) 600; clock(0, 0, 25); result(0, 0) 302
            clock(0, 1, 15); result(0, 0) 4
            """);
        promise.test("RANK (1)", """
            timed(50); control(10); car(0, 0); car(0, 0); car(0, 0); clock(2, 0, 20); clock(1, 0, 30)
            result(0, 1) 3; result(1, 1) 2; result(2, 1) 1
            """);
        promise.test("how many CONTROLS it MISSED (2)", () -> Run.of("timed(50); car(0, 0); car(0, 0)")
            .times(8, "result(0, 2) #; control(1#)").then("result(0, 2) 8; clock(0, 7, 5); clock(0, 0, 5)")
            .then("result(0, 2) 6; result(1, 2) 8"));
        promise.test("at how many it was OUT OF ORDER (3)", () -> Run.of("timed(50); car(0, 0); car(0, 0)")
            .times(8, "control(1#)").then("result(0, 3) 0; clock(0, 7, 5); result(0, 3) 0")
            .times(7, "clock(0, #, 5) 1; clock(1, #, 5) 1").then("result(0, 3) 7; result(1, 3) 0; clock(1, 7, 5)")
            .then("result(1, 3) 0"));
        promise.test("STRUCK ones left out.", """
            timed(50); control(10); control(20); control(30); car(0, 0); car(0, 0); clock(0, 1, 20); clock(0, 0, 10)
            result(1, 2) 3; result(0, 3) 1; strike(2, true); result(1, 2) 2; result(0, 2) 0; result(0, 3) 1
            strike(0, true); result(0, 3) 0; result(1, 2) 1; result(0, 0) 0; strike(0, false); result(0, 0) 100
            strike(1, true); result(0, 3) 0; result(0, 0) 0
            """);
        promise.test("UNKNOWN", """
            result(0, 0) -1; result(0, 9) -1; timed(50); result(0, 0) -1; car(0, 0); result(1, 0) -1; result(-1, 0) -1
            result(MAX, 0) -1; result(MIN, 0) -1; result(8, 4) -1; result(0, 0) 0
            """);
        promise.test("OUTSIDE", """
            car(0, 0); result(0, 4) -2; result(0, -1) -2; timed(50); result(0, 4) -2; result(0, -1) -2
            result(0, MIN) -2; result(0, MAX) -2; result(0, 3) 0
            """);
        promise.test("STATE: there is no SPEED from PLACE 0 on.", """
            car(0, 0); result(0, 0) -3; result(0, 1) -3; way(50); result(0, 0) -3; result(0, 1) -3; result(0, 2) -3
            result(0, 3) -3; speed(1, 600); result(0, 0) -3; result(0, 1) -3; result(0, 2) -3; result(0, 3) -3
            speed(0, 600); result(0, 0) 0; result(0, 1) 1; result(0, 2) 0; result(0, 3) 0; lay(); result(0, 1) -3
            """);
        promise.end();
    }
}
