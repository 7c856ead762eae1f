/** Promises 18 to 23, 30 and 31: cars, their clocks, allowances, errors, points and results. */
public final class CarsTest {
    private static final int MIN = Integer.MIN_VALUE;
    private static final int MAX = Integer.MAX_VALUE;
    private static final long LOST = Long.MIN_VALUE;

    public static void main(String[] args) {
        cars();
        clocks();
        allowances();
        errors();
        errorsByWatch();
        carriedOn();
        pointsByError();
        pointsByClass();
        missed();
        outOfOrder();
        struck();
        refusedWithoutSpeed();
        results();
        ties();
        tiesAtTheEnd();
        tiesByPlace();
        greetings();
        classes();
        Due.end();
    }

    /** A way of 6000 metres at 600 a minute, so that the metres are the tenths that are due. */
    private static RegularRally withControls(int... places) {
        RegularRally x = Due.withWayOf(6000);
        x.speed(0, 600);
        for (int c = 0; c < places.length; c++) {
            Due.due("control", x.control(places[c]), c);
        }
        return x;
    }

    private static void cars() {
        RegularRally x = new RegularRally();
        Due.due("car(-1, 0)", x.car(-1, 0), -2);
        Due.due("car(500001, 0)", x.car(500001, 0), -2);
        Due.due("car(MIN, 0)", x.car(MIN, 0), -2);
        Due.due("car(0, -1)", x.car(0, -1), -2);
        Due.due("car(0, 3)", x.car(0, 3), -2);
        Due.due("told(5)", x.told(5), 0);
        for (int car = 0; car < 8; car++) {
            Due.due("car", x.car(car == 7 ? 500000 : 0, car % 3), car);
        }
        Due.due("a ninth", x.car(0, 0), -4);
        Due.due("a ninth of no class", x.car(0, 3), -2);
        Due.due("told(5)", x.told(5), 8);
        Due.due("greet(8)", x.greet(8), -1);
        Due.due("result(7, 0): no way", x.result(7, 0), -3);
    }

    private static void clocks() {
        RegularRally x = withControls(100);
        x.car(0, 0);
        x.car(0, 0);
        Due.due("clock(2, 0, 5)", x.clock(2, 0, 5), -1);
        Due.due("clock(-1, 0, 5)", x.clock(-1, 0, 5), -1);
        Due.due("clock(0, 1, 5)", x.clock(0, 1, 5), -1);
        Due.due("clock(0, -1, 5)", x.clock(0, -1, 5), -1);
        Due.due("clock(0, MAX, -5)", x.clock(0, MAX, -5), -1);
        Due.due("clock(0, 0, -1)", x.clock(0, 0, -1), -2);
        Due.due("clock(0, 0, 1000001)", x.clock(0, 0, 1000001), -2);
        Due.due("error(0, 0): not clocked", x.error(0, 0), LOST);
        Due.due("clock(0, 0, 1000000)", x.clock(0, 0, 1000000), 1);
        Due.due("clock(0, 0, 5): it was", x.clock(0, 0, 5), -3);
        Due.due("clock(0, 0, -1): outside first", x.clock(0, 0, -1), -2);
        Due.due("error(0, 0)", x.error(0, 0), 999900);
        Due.due("clock(1, 0, 0)", x.clock(1, 0, 0), 1);
        Due.due("error(1, 0)", x.error(1, 0), -100);
    }

    private static void allowances() {
        RegularRally x = withControls(100, 200);
        x.car(0, 0);
        Due.due("allow(1, 0, 5)", x.allow(1, 0, 5), -1);
        Due.due("allow(-1, 0, 5)", x.allow(-1, 0, 5), -1);
        Due.due("allow(0, 2, 5)", x.allow(0, 2, 5), -1);
        Due.due("allow(0, -1, 3001)", x.allow(0, -1, 3001), -1);
        Due.due("allow(0, 0, -1)", x.allow(0, 0, -1), -2);
        Due.due("allow(0, 0, 3001)", x.allow(0, 0, 3001), -2);
        Due.due("allow(0, 0, MIN)", x.allow(0, 0, MIN), -2);
        Due.due("allow(0, 0, 3000)", x.allow(0, 0, 3000), 0);
        Due.due("allow(0, 0, 7): as it was claimed", x.allow(0, 0, 7), 3000);
        Due.due("allow(0, 0, 0)", x.allow(0, 0, 0), 7);
        Due.due("allow(0, 1, 0)", x.allow(0, 1, 0), 0);
    }

    private static void errors() {
        RegularRally x = withControls(1000, 3000);
        x.car(500, 0);
        Due.due("error(1, 0)", x.error(1, 0), LOST);
        Due.due("error(0, 2)", x.error(0, 2), LOST);
        Due.due("error(-1, -1)", x.error(-1, -1), LOST);
        Due.due("error(0, 0)", x.error(0, 0), LOST);
        x.clock(0, 0, 1400);
        x.clock(0, 1, 3607);
        Due.due("error(0, 0): early", x.error(0, 0), -100);
        Due.due("error(0, 1): late", x.error(0, 1), 107);
        x.speed(2000, 300);
        Due.due("error(0, 1): another speed", x.error(0, 1), -893);
        Due.due("error(0, 0)", x.error(0, 0), -100);
        x.strike(0, true);
        Due.due("error(0, 0): struck, yet an error", x.error(0, 0), -100);
        RegularRally y = Due.withWayOf(100);
        y.control(50);
        y.car(0, 0);
        y.clock(0, 0, 50);
        Due.due("error(0, 0): no speed", y.error(0, 0), LOST);
        y.speed(1, 600);
        Due.due("error(0, 0): no speed from 0", y.error(0, 0), LOST);
        y.speed(0, 600);
        Due.due("error(0, 0)", y.error(0, 0), 0);
    }

    private static void errorsByWatch() {
        RegularRally x = withControls(1000);
        x.car(0, 0);
        x.clock(0, 0, 1090);
        Due.due("error(0, 0)", x.error(0, 0), 90);
        x.watch(0, 0, 1000, 100, 1100);
        Due.due("error(0, 0): put right", x.error(0, 0), -10);
        x.watch(0, 0, 1000000, 0, 1);
        Due.due("error(0, 0): far too late", x.error(0, 0), 1090L * 1000000 - 1000);
        Due.due("points(0, 0)", x.points(0, 0), 300);
        x.watch(0, 0, 1000000, 999999, 1000000);
        Due.due("error(0, 0): far too early", x.error(0, 0), -998909L * 1000000 - 1000);
        Due.due("points(0, 0)", x.points(0, 0), 300);
    }

    private static void carriedOn() {
        RegularRally x = withControls(3000, 1000, 2000, 4000);
        x.car(0, 0);
        x.clock(0, 1, 1100);
        x.clock(0, 0, 5000);
        x.clock(0, 3, 3990);
        x.allow(0, 2, 30);
        Due.due("error(0, 1): claimed behind it", x.error(0, 1), 100);
        Due.due("error(0, 0): claimed where it missed", x.error(0, 0), 1970);
        x.strike(2, true);
        Due.due("error(0, 0): struck, too", x.error(0, 0), 1970);
        x.allow(0, 1, 101);
        Due.due("error(0, 1): to 0 at least", x.error(0, 1), 0);
        x.allow(0, 1, 99);
        Due.due("error(0, 1)", x.error(0, 1), 1);
        Due.due("error(0, 0)", x.error(0, 0), 1871);
        Due.due("error(0, 3): an early one stays", x.error(0, 3), -10);
        x.allow(0, 0, 600);
        Due.due("error(0, 0): its own", x.error(0, 0), 1271);
        x.allow(0, 0, 601);
        Due.due("error(0, 0): not beyond 600", x.error(0, 0), 1271);
        x.allow(0, 1, 3000);
        Due.due("error(0, 0)", x.error(0, 0), 770);
        x.allow(0, 2, 299);
        Due.due("error(0, 0)", x.error(0, 0), 501);
        x.allow(0, 2, 300);
        Due.due("error(0, 0): 1500 in all", x.error(0, 0), 500);
        x.allow(0, 2, 301);
        Due.due("error(0, 0): not beyond 1500", x.error(0, 0), 500);
        x.car(0, 0);
        x.clock(1, 0, 5000);
        Due.due("error(1, 0): another car's", x.error(1, 0), 2000);
        x.car(0, 0);
        x.clock(2, 1, 1001);
        Due.due("error(2, 1)", x.error(2, 1), 1);
        x.allow(2, 1, 5);
        Due.due("error(2, 1): to 0", x.error(2, 1), 0);
    }

    private static void pointsByError() {
        int[] tenths = {0, 1, 9, 10, 11, 20, 2990, 2991, 3000, 3001, 5000};
        int[] late = {0, 1, 1, 1, 2, 2, 299, 300, 300, 300, 300};
        int[] early = {0, 2, 2, 2, 4, 4, 300, 300, 300, 300, 300};
        for (int k = 0; k < tenths.length; k++) {
            RegularRally x = withControls(6000);
            x.car(0, 0);
            x.clock(0, 0, 6000 + tenths[k]);
            Due.due("late by " + tenths[k], x.points(0, 0), late[k]);
            x.car(0, 0);
            x.clock(1, 0, 6000 - tenths[k]);
            Due.due("early by " + tenths[k], x.points(1, 0), early[k]);
        }
        RegularRally x = withControls(6000);
        x.car(0, 0);
        x.clock(0, 0, 4501);
        Due.due("early by 1499", x.points(0, 0), 300);
        x.car(0, 0);
        x.clock(1, 0, 4510);
        Due.due("early by 1490", x.points(1, 0), 298);
    }

    private static void pointsByClass() {
        RegularRally x = withControls(1000, 2000, 3000);
        x.car(0, 1);
        x.car(0, 2);
        for (int car = 0; car < 2; car++) {
            x.clock(car, 0, 1030);
            x.clock(car, 1, 3010);
            x.clock(car, 2, 9000);
        }
        Due.due("OLD: half of 3", x.points(0, 0), 1);
        Due.due("OLD: half of 101", x.points(0, 1), 50);
        Due.due("OLD: half of 300", x.points(0, 2), 150);
        Due.due("NOVICE: half of 3", x.points(1, 0), 1);
        Due.due("NOVICE: half of 101", x.points(1, 1), 50);
        Due.due("NOVICE: 50 at most", x.points(1, 2), 50);
        RegularRally y = withControls(1000);
        y.car(0, 1);
        y.car(0, 2);
        y.clock(0, 0, 975);
        y.clock(1, 0, 755);
        Due.due("OLD: half of 6", y.points(0, 0), 3);
        Due.due("NOVICE: half of 50", y.points(1, 0), 25);
    }

    private static void missed() {
        RegularRally x = withControls(1000, 2000);
        for (int kind = 0; kind < 3; kind++) {
            x.car(0, kind);
            Due.due("points at a missed one", x.points(kind, 1), 300);
            Due.due("result(car, 2)", x.result(kind, 2), 2);
            Due.due("result(car, 0)", x.result(kind, 0), 600);
        }
        x.strike(1, true);
        Due.due("points(0, 1): struck", x.points(0, 1), 0);
        Due.due("result(0, 2): struck ones left out", x.result(0, 2), 1);
        x.clock(0, 0, 1000);
        Due.due("result(0, 2)", x.result(0, 2), 0);
        Due.due("result(0, 0)", x.result(0, 0), 0);
    }

    private static void outOfOrder() {
        RegularRally x = withControls(3000, 1000, 2000);
        for (int kind = 0; kind < 3; kind++) {
            x.car(0, kind);
            x.clock(kind, 2, 2000);
            x.clock(kind, 1, 1000);
            x.clock(kind, 0, 3000);
            Due.due("points at 1000, behind 2000", x.points(kind, 1), 100);
            Due.due("points at 2000", x.points(kind, 2), 0);
            Due.due("points at 3000", x.points(kind, 0), 0);
            Due.due("result(car, 3)", x.result(kind, 3), 1);
            Due.due("result(car, 0)", x.result(kind, 0), 100);
        }
        x.car(0, 0);
        x.clock(3, 0, 3000);
        x.clock(3, 1, 1000);
        x.clock(3, 2, 2000);
        Due.due("points at 1000, behind 3000", x.points(3, 1), 100);
        Due.due("points at 2000, behind 3000", x.points(3, 2), 100);
        Due.due("result(3, 3)", x.result(3, 3), 2);
        Due.due("error(3, 1): as it is", x.error(3, 1), 0);
        x.car(0, 0);
        x.clock(4, 1, 5000);
        x.clock(4, 2, 4000);
        Due.due("by the telling, not by the times", x.result(4, 3), 0);
        x.car(0, 0);
        x.clock(5, 0, 3000);
        Due.due("missed ones are not out of order", x.result(5, 3), 0);
        x.clock(5, 2, 2000);
        Due.due("points(5, 1): missed", x.points(5, 1), 300);
        Due.due("result(5, 3)", x.result(5, 3), 1);
    }

    private static void struck() {
        RegularRally x = withControls(1000, 2000, 3000);
        x.car(0, 0);
        x.clock(0, 2, 3000);
        x.clock(0, 1, 2000);
        x.clock(0, 0, 1000);
        Due.due("result(0, 3)", x.result(0, 3), 2);
        x.strike(2, true);
        Due.due("by a struck one alone", x.points(0, 1), 0);
        Due.due("by another, too", x.points(0, 0), 100);
        Due.due("result(0, 3)", x.result(0, 3), 1);
        x.strike(0, true);
        Due.due("struck itself", x.points(0, 0), 0);
        Due.due("result(0, 3)", x.result(0, 3), 0);
        Due.due("result(0, 0)", x.result(0, 0), 0);
        x.strike(2, false);
        Due.due("result(0, 3)", x.result(0, 3), 1);
        Due.due("result(0, 0)", x.result(0, 0), 100);
    }

    private static void refusedWithoutSpeed() {
        RegularRally x = Due.withWayOf(100);
        x.control(50);
        x.car(0, 0);
        Due.due("points(0, 0)", x.points(0, 0), -3);
        x.strike(0, true);
        Due.due("points(0, 0): struck, too", x.points(0, 0), -3);
        x.speed(1, 5);
        Due.due("points(0, 0): none from 0", x.points(0, 0), -3);
        Due.due("points(0, 1)", x.points(0, 1), -1);
        Due.due("points(1, 0)", x.points(1, 0), -1);
        Due.due("points(-1, -1)", x.points(-1, -1), -1);
        for (int what = 0; what < 4; what++) {
            Due.due("result(0, what)", x.result(0, what), -3);
        }
        Due.due("result(0, 4): outside first", x.result(0, 4), -2);
        Due.due("result(0, -1)", x.result(0, -1), -2);
        Due.due("result(0, MIN)", x.result(0, MIN), -2);
        Due.due("result(1, 4): the car first", x.result(1, 4), -1);
        Due.due("result(-1, 0)", x.result(-1, 0), -1);
        x.speed(0, 5);
        Due.due("points(0, 0)", x.points(0, 0), 0);
        Due.due("result(0, 1)", x.result(0, 1), 1);
        Due.due("result(0, 4)", x.result(0, 4), -2);
    }

    private static void results() {
        RegularRally x = withControls(1000, 2000);
        int[] late = {70, 20, 50, 200};
        for (int car = 0; car < 4; car++) {
            x.car(0, 0);
            x.clock(car, 0, 1000);
            x.clock(car, 1, 2000 + late[car]);
        }
        x.car(0, 0);
        int[] totals = {7, 2, 5, 20, 600};
        int[] ranks = {3, 1, 2, 4, 5};
        for (int car = 0; car < 5; car++) {
            Due.due("result(car, 0)", x.result(car, 0), totals[car]);
            Due.due("result(car, 1)", x.result(car, 1), ranks[car]);
        }
        x.strike(1, true);
        for (int car = 0; car < 4; car++) {
            Due.due("result(car, 1): all alike", x.result(car, 1), car + 1);
        }
        Due.due("result(4, 1)", x.result(4, 1), 5);
    }

    private static void ties() {
        RegularRally x = withControls(1000, 2000);
        // of like totals the less one at the first control where they are unlike
        int[][] late = {{20, 10}, {10, 20}, {0, 30}, {30, 0}, {10, 20}};
        for (int car = 0; car < 5; car++) {
            x.car(0, 0);
            x.clock(car, 0, 1000 + late[car][0]);
            x.clock(car, 1, 2000 + late[car][1]);
        }
        int[] ranks = {4, 2, 1, 5, 3};
        for (int car = 0; car < 5; car++) {
            Due.due("result(car, 0)", x.result(car, 0), 3);
            Due.due("result(car, 1)", x.result(car, 1), ranks[car]);
        }
    }

    private static void tiesAtTheEnd() {
        RegularRally x = withControls(5999, 6000);
        for (int car = 0; car < 2; car++) {
            x.car(0, 0);
            x.clock(car, 0, 5999 + 10 * (1 - car));
            x.clock(car, 1, 6000 + 10 * car);
        }
        Due.due("result(0, 1)", x.result(0, 1), 2);
        Due.due("result(1, 1)", x.result(1, 1), 1);
    }

    private static void tiesByPlace() {
        RegularRally x = withControls(3000, 2000, 1000);
        // told by places: car 0: 2 1 1, car 1: 1 3 0, car 2: 1 2 1
        int[][] late = {{10, 10, 20}, {0, 30, 10}, {10, 20, 10}};
        for (int car = 0; car < 3; car++) {
            x.car(0, 0);
            for (int c = 2; c >= 0; c--) {
                x.clock(car, c, 1000 * (3 - c) + late[car][c]);
            }
        }
        Due.due("result(0, 1)", x.result(0, 1), 3);
        Due.due("result(1, 1)", x.result(1, 1), 2);
        Due.due("result(2, 1)", x.result(2, 1), 1);
        // at 2000 and 3000 alone: 1 1, 3 0, 2 1
        x.strike(2, true);
        Due.due("result(0, 1)", x.result(0, 1), 1);
        Due.due("result(1, 1): 3 0 behind 2 1", x.result(1, 1), 3);
        Due.due("result(2, 1)", x.result(2, 1), 2);
        // at 3000 alone: 1, 0, 1
        x.strike(1, true);
        Due.due("result(0, 1)", x.result(0, 1), 2);
        Due.due("result(1, 1)", x.result(1, 1), 1);
        Due.due("result(2, 1)", x.result(2, 1), 3);
    }

    private static void greetings() {
        RegularRally x = new RegularRally();
        for (int car = 0; car < 8; car++) {
            x.car(0, car % 3);
        }
        Due.due("greet(0)", x.greet(0), 0);
        Due.due("trace()", x.trace(), 4);
        Due.due("greet(1)", x.greet(1), 7);
        Due.due("trace()", x.trace(), 4 * 31 + 5);
        Due.due("greet(2)", x.greet(2), 8);
        Due.due("trace()", x.trace(), ((4 * 31 + 5) * 31 + 6) * 31 + 5);
        int before = x.trace();
        Due.due("greet(3)", x.greet(3), 30);
        Due.due("trace()", x.trace(), before * 31 + 4);
        Due.due("greet(6)", x.greet(6), 60);
        Due.due("greet(7)", x.greet(7), 7);
        before = x.trace();
        Due.due("greet(8)", x.greet(8), -1);
        Due.due("greet(-1)", x.greet(-1), -1);
        Due.due("trace(): as it was", x.trace(), before);
    }

    private static void classes() {
        RegularRally x = new RegularRally();
        for (int kind = 0; kind < 3; kind++) {
            x.car(0, kind);
        }
        for (int car = 0; car < 3; car++) {
            for (int kind = 0; kind < 3; kind++) {
                Due.due("as", x.as(car, kind), kind <= car ? 1 : -12);
                Due.due("fault()", x.fault(), kind <= car ? 0 : 2);
            }
        }
        x.as(0, 2);
        Due.due("as(0, 3)", x.as(0, 3), -2);
        Due.due("fault() of a refusal", x.fault(), 0);
        Due.due("as(0, -1)", x.as(0, -1), -2);
        Due.due("as(3, 3): the car first", x.as(3, 3), -1);
        Due.due("as(-1, 0)", x.as(-1, 0), -1);
        Due.due("as(MIN, 0)", x.as(MIN, 0), -1);
    }
}
