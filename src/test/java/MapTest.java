/** Promises 1 to 5 and 29: a new object, roads, what is told of them. */
public final class MapTest {
    private static final int MIN = Integer.MIN_VALUE;
    private static final int MAX = Integer.MAX_VALUE;

    public static void main(String[] args) {
        newObject();
        roads();
        roadsRefused();
        roadsFull();
        shutRoads();
        wetFords();
        aboutRoads();
        tellings();
        Due.end();
    }

    private static void newObject() {
        RegularRally x = new RegularRally();
        for (int what = 0; what <= 7; what++) {
            Due.due("told of a new object", x.told(what), 0);
        }
        Due.due("told(-1)", x.told(-1), -2);
        Due.due("told(8)", x.told(8), -2);
        Due.due("fault()", x.fault(), 0);
        Due.due("trace()", x.trace(), 0);
        Due.due("ways()", x.ways(), -3);
        Due.due("lay()", x.lay(), -3);
        Due.due("laid(0)", x.laid(0), -1);
        Due.due("about(0, 0)", x.about(0, 0), -1);
        Due.due("shut(0, true)", x.shut(0, true), -1);
        Due.due("wet(0, true)", x.wet(0, true), -1);
        Due.due("tell(0)", x.tell(0), -1);
        Due.due("control(1)", x.control(1), -3);
        Due.due("roadAt(0)", x.roadAt(0), -3);
        Due.due("due(0)", x.due(0), RegularRally.LOST);
        Due.due("strike(0, true)", x.strike(0, true), -1);
        Due.due("greet(0)", x.greet(0), -1);
        Due.due("result(0, 0)", x.result(0, 0), -1);
        for (int k = 0; k < 4; k++) {
            Due.due("lose of a new object", x.lose(k), 0);
        }
    }

    private static void roads() {
        RegularRally x = new RegularRally();
        Due.due("road(0, 9, 1, 0)", x.road(0, 9, 1, 0), 0);
        Due.due("road(9, 0, 20000, 1)", x.road(9, 0, 20000, 1), 1);
        Due.due("road(0, 9, 1, 2)", x.road(0, 9, 1, 2), 2);
        Due.due("told(0)", x.told(0), 3);
        RegularRally other = new RegularRally();
        Due.due("told(0) of another object", other.told(0), 0);
    }

    private static void roadsRefused() {
        RegularRally x = new RegularRally();
        Due.due("road(-1, 1, 5, 0)", x.road(-1, 1, 5, 0), -1);
        Due.due("road(10, 1, 5, 0)", x.road(10, 1, 5, 0), -1);
        Due.due("road(1, -1, 5, 0)", x.road(1, -1, 5, 0), -1);
        Due.due("road(1, 10, 5, 0)", x.road(1, 10, 5, 0), -1);
        Due.due("road(MIN, MAX, 5, 0)", x.road(MIN, MAX, 5, 0), -1);
        Due.due("road(10, 10, 0, 3): spots first", x.road(10, 10, 0, 3), -1);
        Due.due("road(1, 1, 5, 0)", x.road(1, 1, 5, 0), -2);
        Due.due("road(0, 1, 0, 0)", x.road(0, 1, 0, 0), -2);
        Due.due("road(0, 1, -5, 0)", x.road(0, 1, -5, 0), -2);
        Due.due("road(0, 1, 20001, 0)", x.road(0, 1, 20001, 0), -2);
        Due.due("road(0, 1, MIN, 0)", x.road(0, 1, MIN, 0), -2);
        Due.due("road(0, 1, 5, -1)", x.road(0, 1, 5, -1), -2);
        Due.due("road(0, 1, 5, 3)", x.road(0, 1, 5, 3), -2);
        Due.due("road(0, 1, 5, MAX)", x.road(0, 1, 5, MAX), -2);
        Due.due("told(0)", x.told(0), 0);
    }

    private static void roadsFull() {
        RegularRally x = new RegularRally();
        for (int r = 0; r < 16; r++) {
            Due.due("road", x.road(r % 10, (r + 3) % 10, r + 1, r % 3), r);
        }
        Due.due("a 17th road", x.road(0, 1, 5, 0), -4);
        Due.due("a 17th road of wrong spots", x.road(0, 10, 5, 0), -1);
        Due.due("a 17th road of a wrong length", x.road(0, 1, 0, 0), -2);
        Due.due("told(0)", x.told(0), 16);
        Due.due("about(15, 2)", x.about(15, 2), 16);
        Due.due("about(16, 2)", x.about(16, 2), -1);
    }

    private static void shutRoads() {
        RegularRally x = new RegularRally();
        x.road(0, 1, 5, 0);
        x.road(0, 2, 5, 1);
        Due.due("shut(0, false)", x.shut(0, false), 0);
        Due.due("shut(0, true)", x.shut(0, true), 1);
        Due.due("shut(0, true)", x.shut(0, true), 0);
        Due.due("about(0, 4)", x.about(0, 4), 1);
        Due.due("about(1, 4)", x.about(1, 4), 0);
        Due.due("shut(0, false)", x.shut(0, false), 1);
        Due.due("about(0, 4)", x.about(0, 4), 0);
        Due.due("shut(-1, true)", x.shut(-1, true), -1);
        Due.due("shut(2, true)", x.shut(2, true), -1);
        Due.due("shut(MAX, true)", x.shut(MAX, true), -1);
        Due.due("shut(MIN, false)", x.shut(MIN, false), -1);
    }

    private static void wetFords() {
        RegularRally x = new RegularRally();
        x.road(0, 1, 5, 0);
        x.road(0, 2, 5, 1);
        x.road(0, 3, 5, 2);
        Due.due("wet(2, false)", x.wet(2, false), 0);
        Due.due("wet(2, true)", x.wet(2, true), 1);
        Due.due("wet(2, true)", x.wet(2, true), 0);
        Due.due("about(2, 4)", x.about(2, 4), 1);
        Due.due("wet(0, true) of a road", x.wet(0, true), -12);
        Due.due("fault()", x.fault(), 2);
        Due.due("wet(1, false) of a one way", x.wet(1, false), -12);
        Due.due("fault()", x.fault(), 2);
        Due.due("wet(3, true)", x.wet(3, true), -1);
        Due.due("fault() of a refusal", x.fault(), 0);
        Due.due("wet(0, false)", x.wet(0, false), -12);
        Due.due("wet(2, false)", x.wet(2, false), 1);
        Due.due("fault() of none", x.fault(), 0);
        Due.due("about(2, 4)", x.about(2, 4), 0);
        Due.due("wet(-1, true)", x.wet(-1, true), -1);
        x.wet(2, true);
        Due.due("shut of a wet ford", x.shut(2, true), 1);
        x.wet(2, false);
        Due.due("about(2, 4): still shut", x.about(2, 4), 1);
        x.wet(2, true);
        x.shut(2, false);
        Due.due("about(2, 4): still wet", x.about(2, 4), 1);
    }

    private static void aboutRoads() {
        RegularRally x = new RegularRally();
        x.road(4, 7, 321, 2);
        x.road(7, 8, 20, 1);
        x.road(8, 9, 1, 0);
        Due.due("about(0, 0)", x.about(0, 0), 4);
        Due.due("about(0, 1)", x.about(0, 1), 7);
        Due.due("about(0, 2)", x.about(0, 2), 321);
        Due.due("about(0, 3)", x.about(0, 3), 2);
        Due.due("about(1, 3)", x.about(1, 3), 1);
        Due.due("about(2, 3)", x.about(2, 3), 0);
        Due.due("about(0, 4)", x.about(0, 4), 0);
        Due.due("about(0, 5): no way", x.about(0, 5), -9);
        Due.book(x, 4, 8);
        Due.due("lay()", x.lay(), 2);
        Due.due("about(0, 5)", x.about(0, 5), 0);
        Due.due("about(1, 5)", x.about(1, 5), 1);
        Due.due("about(2, 5)", x.about(2, 5), -9);
        Due.due("about(0, -1)", x.about(0, -1), -2);
        Due.due("about(0, 6)", x.about(0, 6), -2);
        Due.due("about(0, MIN)", x.about(0, MIN), -2);
        Due.due("about(3, 6): the road first", x.about(3, 6), -1);
        Due.due("about(-1, 0)", x.about(-1, 0), -1);
    }

    private static void tellings() {
        RegularRally x = new RegularRally();
        x.road(0, 1, 500, 0);
        x.road(0, 1, 500, 1);
        x.road(0, 1, 500, 2);
        Due.due("tell(0)", x.tell(0), 500);
        Due.due("trace()", x.trace(), 1);
        Due.due("tell(1)", x.tell(1), 501);
        Due.due("trace()", x.trace(), (31 + 2) * 31 + 1);
        int before = x.trace();
        Due.due("tell(2)", x.tell(2), 500);
        Due.due("trace()", x.trace(), (before * 31 + 3) * 31 + 1);
        x.shut(2, true);
        Due.due("tell(2), shut", x.tell(2), 500);
        x.wet(2, true);
        Due.due("tell(2), wet", x.tell(2), -500);
        before = x.trace();
        Due.due("tell(3)", x.tell(3), -1);
        Due.due("tell(-1)", x.tell(-1), -1);
        Due.due("trace() of refusals", x.trace(), before);
        for (int i = 0; i < 20; i++) {
            x.tell(2);
            before = (before * 31 + 3) * 31 + 1;
            Due.due("trace() that wraps", x.trace(), before);
        }
    }
}
