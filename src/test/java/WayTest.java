/** Promises 11 to 17: speeds, what is due, roads by place, controls and their watches. */
public final class WayTest {
    private static final int MIN = Integer.MIN_VALUE;
    private static final int MAX = Integer.MAX_VALUE;
    private static final long LOST = Long.MIN_VALUE;

    public static void main(String[] args) {
        withoutWay();
        speeds();
        speedsOfOnePlace();
        dueByStretches();
        dueOfEightStretches();
        dueOfTheLongest();
        roadsByPlace();
        controls();
        watches();
        strikes();
        Due.end();
    }

    private static void withoutWay() {
        RegularRally x = new RegularRally();
        Due.due("speed(0, 5)", x.speed(0, 5), -3);
        Due.due("speed(0, 0): v first", x.speed(0, 0), -2);
        Due.due("speed(-1, 3001): v first", x.speed(-1, 3001), -2);
        Due.due("speed(-1, 5)", x.speed(-1, 5), -3);
        Due.due("due(0)", x.due(0), LOST);
        Due.due("roadAt(0)", x.roadAt(0), -3);
        Due.due("roadAt(-1): the state first", x.roadAt(-1), -3);
        Due.due("control(1)", x.control(1), -3);
        Due.due("control(0): the state first", x.control(0), -3);
        Due.due("watch(0, 0, 1, 0, 1)", x.watch(0, 0, 1, 0, 1), -1);
        Due.due("right(0, 0)", x.right(0, 0), LOST);
        Due.due("strike(0, false)", x.strike(0, false), -1);
    }

    private static void speeds() {
        RegularRally x = Due.withWayOf(100);
        Due.due("speed(100, 3000)", x.speed(100, 3000), 1);
        Due.due("due(0): none from 0", x.due(0), LOST);
        Due.due("speed(0, 1)", x.speed(0, 1), 2);
        Due.due("due(0)", x.due(0), 0);
        Due.due("due(100)", x.due(100), 60000);
        Due.due("speed(0, 0)", x.speed(0, 0), -2);
        Due.due("speed(0, -1)", x.speed(0, -1), -2);
        Due.due("speed(0, 3001)", x.speed(0, 3001), -2);
        Due.due("speed(0, MIN)", x.speed(0, MIN), -2);
        Due.due("speed(-1, 5)", x.speed(-1, 5), -2);
        Due.due("speed(101, 5)", x.speed(101, 5), -2);
        Due.due("speed(MAX, 5)", x.speed(MAX, 5), -2);
        Due.due("told(3)", x.told(3), 2);
        for (int s = 3; s <= 8; s++) {
            Due.due("speed", x.speed(50, 5), s);
        }
        Due.due("a ninth", x.speed(50, 5), -4);
        Due.due("a ninth, outside", x.speed(101, 5), -2);
        Due.due("told(3)", x.told(3), 8);
        Due.due("due(101)", x.due(101), LOST);
        Due.due("due(-1)", x.due(-1), LOST);
        Due.due("due(MAX)", x.due(MAX), LOST);
        Due.due("due(MIN)", x.due(MIN), LOST);
    }

    private static void speedsOfOnePlace() {
        RegularRally x = Due.withWayOf(1000);
        x.speed(0, 600);
        x.speed(500, 300);
        Due.due("due(1000)", x.due(1000), 1500);
        Due.due("speed(500, 60)", x.speed(500, 60), 3);
        Due.due("due(1000)", x.due(1000), 5500);
        Due.due("speed(0, 60)", x.speed(0, 60), 4);
        Due.due("due(1000)", x.due(1000), 10000);
        Due.due("due(500)", x.due(500), 5000);
        Due.due("speed(500, 600)", x.speed(500, 600), 5);
        Due.due("due(500)", x.due(500), 5000);
        Due.due("due(501)", x.due(501), 5001);
    }

    private static void dueByStretches() {
        RegularRally x = Due.withWayOf(1000);
        x.speed(30, 7);
        x.speed(10, 700);
        x.speed(0, 900);
        x.speed(20, 77);
        Due.due("due(1): 600 by 900, cut", x.due(1), 0);
        Due.due("due(9)", x.due(9), 6);
        Due.due("due(10)", x.due(10), 6);
        Due.due("due(11): cut by itself", x.due(11), 6);
        Due.due("due(12)", x.due(12), 7);
        Due.due("due(20): 6 and 8", x.due(20), 14);
        Due.due("due(30): 6, 8 and 77", x.due(30), 91);
        Due.due("due(31): and 85", x.due(31), 176);
        Due.due("due(1000): and 83142", x.due(1000), 83233);
    }

    private static void dueOfEightStretches() {
        RegularRally x = Due.withWayOf(80);
        for (int s = 7; s >= 0; s--) {
            x.speed(10 * s, s + 1);
        }
        int due = 0;
        for (int s = 0; s < 8; s++) {
            Due.due("due where a stretch begins", x.due(10 * s), due);
            due += 6000 / (s + 1);
        }
        Due.due("due(80)", x.due(80), due);
        Due.due("roadAt(80)", x.roadAt(80), 0);
    }

    private static void dueOfTheLongest() {
        RegularRally x = new RegularRally();
        for (int spot = 0; spot < 9; spot++) {
            x.road(spot, spot + 1, 20000, 0);
        }
        x.road(9, 0, 20000, 1);
        Due.book(x, 0, 9, 0);
        Due.due("lay()", x.lay(), 10);
        Due.due("told(2)", x.told(2), 200000);
        x.speed(0, 1);
        Due.due("due(200000)", x.due(200000), 120000000);
        Due.due("due(200001)", x.due(200001), LOST);
    }

    private static void roadsByPlace() {
        RegularRally x = new RegularRally();
        x.road(2, 3, 30, 0);
        x.road(1, 2, 20, 0);
        x.road(0, 1, 10, 0);
        Due.book(x, 0, 3);
        Due.due("lay()", x.lay(), 3);
        Due.due("roadAt(0)", x.roadAt(0), 2);
        Due.due("roadAt(9)", x.roadAt(9), 2);
        Due.due("roadAt(10)", x.roadAt(10), 1);
        Due.due("roadAt(29)", x.roadAt(29), 1);
        Due.due("roadAt(30)", x.roadAt(30), 0);
        Due.due("roadAt(59)", x.roadAt(59), 0);
        Due.due("roadAt(60)", x.roadAt(60), 0);
        Due.due("roadAt(61)", x.roadAt(61), -2);
        Due.due("roadAt(-1)", x.roadAt(-1), -2);
        Due.due("roadAt(MIN)", x.roadAt(MIN), -2);
        Due.due("roadAt(MAX)", x.roadAt(MAX), -2);
    }

    private static void controls() {
        RegularRally x = Due.withWayOf(100);
        Due.due("control(0)", x.control(0), -2);
        Due.due("control(-1)", x.control(-1), -2);
        Due.due("control(101)", x.control(101), -2);
        Due.due("control(MAX)", x.control(MAX), -2);
        Due.due("control(100)", x.control(100), 0);
        Due.due("control(1)", x.control(1), 1);
        Due.due("control(100)", x.control(100), -3);
        Due.due("told(4)", x.told(4), 2);
        for (int c = 2; c < 8; c++) {
            Due.due("control", x.control(10 * c), c);
        }
        Due.due("a ninth", x.control(50 + 5), -4);
        Due.due("a ninth where there is one", x.control(50), -3);
        Due.due("a ninth, outside", x.control(0), -2);
        Due.due("told(4)", x.told(4), 8);
        Due.due("right(7, 5)", x.right(7, 5), 5);
        Due.due("right(8, 5)", x.right(8, 5), LOST);
    }

    private static void watches() {
        RegularRally x = Due.withWayOf(100);
        x.control(10);
        x.control(20);
        Due.due("right(0, 1000000): no checks", x.right(0, 1000000), 1000000);
        Due.due("right(0, 0)", x.right(0, 0), 0);
        Due.due("right(0, -1)", x.right(0, -1), LOST);
        Due.due("right(0, 1000001)", x.right(0, 1000001), LOST);
        Due.due("right(-1, 0)", x.right(-1, 0), LOST);
        Due.due("right(2, 0)", x.right(2, 0), LOST);
        Due.due("watch(0, 100, 200, 50, 350)", x.watch(0, 100, 200, 50, 350), 1);
        Due.due("right(0, 50)", x.right(0, 50), 100);
        Due.due("right(0, 350)", x.right(0, 350), 200);
        Due.due("right(0, 52): cut", x.right(0, 52), 100);
        Due.due("right(0, 53)", x.right(0, 53), 101);
        Due.due("right(0, 48): cut toward 0", x.right(0, 48), 100);
        Due.due("right(0, 47)", x.right(0, 47), 99);
        Due.due("right(0, 0)", x.right(0, 0), 84);
        Due.due("right(1, 48): another watch", x.right(1, 48), 48);
        Due.due("checks again", x.watch(0, 0, 1000000, 999999, 1000000), 1);
        Due.due("right(0, 0): far below 0", x.right(0, 0), -999999000000L);
        Due.due("right(0, 1000000)", x.right(0, 1000000), 1000000);
        Due.due("checks again", x.watch(0, 0, 1000000, 0, 1), 1);
        Due.due("right(0, 1000000): far above", x.right(0, 1000000), 1000000000000L);
        Due.due("watch(0, 5, 5, 0, 1)", x.watch(0, 5, 5, 0, 1), -2);
        Due.due("watch(0, 6, 5, 0, 1)", x.watch(0, 6, 5, 0, 1), -2);
        Due.due("watch(0, 0, 1, 1, 1)", x.watch(0, 0, 1, 1, 1), -2);
        Due.due("watch(0, 0, 1, 2, 1)", x.watch(0, 0, 1, 2, 1), -2);
        Due.due("watch(0, -1, 1, 0, 1)", x.watch(0, -1, 1, 0, 1), -2);
        Due.due("watch(0, 0, 1000001, 0, 1)", x.watch(0, 0, 1000001, 0, 1), -2);
        Due.due("watch(0, 0, 1, -1, 1)", x.watch(0, 0, 1, -1, 1), -2);
        Due.due("watch(0, 0, 1, 0, 1000001)", x.watch(0, 0, 1, 0, 1000001), -2);
        Due.due("watch(0, MIN, MAX, MIN, MAX)", x.watch(0, MIN, MAX, MIN, MAX), -2);
        Due.due("watch(2, 5, 5, 0, 1)", x.watch(2, 5, 5, 0, 1), -1);
        Due.due("watch(-1, 0, 1, 0, 1)", x.watch(-1, 0, 1, 0, 1), -1);
        Due.due("right(0, 1): as it was", x.right(0, 1), 1000000);
    }

    private static void strikes() {
        RegularRally x = Due.withWayOf(100);
        x.control(10);
        x.control(20);
        Due.due("strike(0, false)", x.strike(0, false), 0);
        Due.due("strike(0, true)", x.strike(0, true), 1);
        Due.due("strike(0, true)", x.strike(0, true), 0);
        Due.due("strike(1, true)", x.strike(1, true), 1);
        Due.due("strike(0, false)", x.strike(0, false), 1);
        Due.due("strike(2, true)", x.strike(2, true), -1);
        Due.due("strike(-1, true)", x.strike(-1, true), -1);
        Due.due("strike(MAX, true)", x.strike(MAX, true), -1);
    }
}
