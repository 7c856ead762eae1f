/** Promises 24 to 28, 32 and 33: sheets of numbers, their faults. */
public final class SheetsTest {
    private static final int MIN = Integer.MIN_VALUE;
    private static final int MAX = Integer.MAX_VALUE;
    private static final long LOST = Long.MIN_VALUE;

    public static void main(String[] args) {
        sheets();
        loses();
        lanes();
        putsRefused();
        cellsRefused();
        copies();
        copiesRefused();
        faults();
        Due.end();
    }

    private static void sheets() {
        RegularRally x = new RegularRally();
        Due.due("sheet(4, 0, 1)", x.sheet(4, 0, 1), -1);
        Due.due("sheet(-1, 0, 1)", x.sheet(-1, 0, 1), -1);
        Due.due("sheet(MIN, 5, -1)", x.sheet(MIN, 5, -1), -1);
        Due.due("sheet(0, 3, 1)", x.sheet(0, 3, 1), -2);
        Due.due("sheet(0, -1, 1)", x.sheet(0, -1, 1), -2);
        Due.due("sheet(0, 3, -1): outside first", x.sheet(0, 3, -1), -2);
        Due.due("sheet(0, 0, 33)", x.sheet(0, 0, 33), -2);
        Due.due("sheet(0, 0, MAX)", x.sheet(0, 0, MAX), -2);
        Due.due("fault()", x.fault(), 0);
        Due.due("sheet(0, 0, -1)", x.sheet(0, 0, -1), -14);
        Due.due("fault()", x.fault(), 4);
        Due.due("sheet(0, 0, MIN)", x.sheet(0, 0, MIN), -14);
        Due.due("lose(0): it had nothing", x.lose(0), 0);
        Due.due("sheet(0, 0, 0)", x.sheet(0, 0, 0), 1);
        Due.due("fault()", x.fault(), 0);
        Due.due("cell(0, 0, 0) of none", x.cell(0, 0, 0), LOST);
        Due.due("fault()", x.fault(), 3);
        Due.due("sheet(0, 2, 32)", x.sheet(0, 2, 32), 1);
        for (int i = 0; i < 32; i++) {
            Due.due("a cell, at first", x.cell(0, i, 2), 0);
            Due.due("put", x.put(0, i, i + 1), 1);
        }
        Due.due("cell(0, 31, 2)", x.cell(0, 31, 2), 32);
        Due.due("sheet(0, 2, 33)", x.sheet(0, 2, 33), -2);
        Due.due("sheet(0, 2, -1)", x.sheet(0, 2, -1), -14);
        Due.due("cell(0, 31, 2): as it was", x.cell(0, 31, 2), 32);
        Due.due("a new row", x.sheet(0, 1, 32), 1);
        for (int i = 0; i < 32; i++) {
            Due.due("a cell of the new row", x.cell(0, i, 1), 0);
        }
        Due.due("lose(1): another sheet", x.lose(1), 0);
    }

    private static void loses() {
        RegularRally x = new RegularRally();
        Due.due("lose(0)", x.lose(0), 0);
        x.sheet(0, 0, 0);
        Due.due("lose(0) of a row of none", x.lose(0), 1);
        Due.due("lose(0)", x.lose(0), 0);
        Due.fill(x, 3, 1, 5, 6);
        Due.due("lose(3)", x.lose(3), 1);
        Due.due("put(3, 0, 1)", x.put(3, 0, 1), -11);
        Due.due("lose(4)", x.lose(4), -1);
        Due.due("lose(-1)", x.lose(-1), -1);
        Due.due("lose(MAX)", x.lose(MAX), -1);
        Due.due("fault(): lose names none", x.fault(), 1);
        Due.due("sheet(3, 1, 2)", x.sheet(3, 1, 2), 1);
        Due.due("cell(3, 0, 1)", x.cell(3, 0, 1), 0);
    }

    private static void lanes() {
        int[] values = {0, 1, -1, 127, 128, -128, -129, 255, 256, 32767, 32768, -32768, -32769,
            65535, 65536, MAX, MIN};
        RegularRally x = new RegularRally();
        for (int lane = 0; lane < 3; lane++) {
            x.sheet(lane, lane, values.length);
            for (int i = 0; i < values.length; i++) {
                Due.due("put", x.put(lane, i, values[i]), 1);
            }
        }
        for (int i = 0; i < values.length; i++) {
            Due.due("a byte", x.cell(0, i, 0), (byte) values[i]);
            Due.due("a short", x.cell(1, i, 1), (short) values[i]);
            Due.due("an int", x.cell(2, i, 2), values[i]);
        }
    }

    private static void putsRefused() {
        RegularRally x = new RegularRally();
        Due.due("put(4, 0, 1)", x.put(4, 0, 1), -1);
        Due.due("put(-1, 0, 1)", x.put(-1, 0, 1), -1);
        Due.due("put(0, 0, 1)", x.put(0, 0, 1), -11);
        Due.due("fault()", x.fault(), 1);
        Due.due("put(0, -1, 1): NULL first", x.put(0, -1, 1), -11);
        x.sheet(0, 2, 2);
        Due.due("put(0, -1, 1)", x.put(0, -1, 1), -13);
        Due.due("fault()", x.fault(), 3);
        Due.due("put(0, 2, 1)", x.put(0, 2, 1), -13);
        Due.due("put(0, MAX, 1)", x.put(0, MAX, 1), -13);
        Due.due("put(0, MIN, 1)", x.put(0, MIN, 1), -13);
        Due.due("put(0, 1, 1)", x.put(0, 1, 1), 1);
        Due.due("fault()", x.fault(), 0);
        Due.due("cell(0, 0, 2)", x.cell(0, 0, 2), 0);
        Due.due("cell(0, 1, 2)", x.cell(0, 1, 2), 1);
    }

    private static void cellsRefused() {
        RegularRally x = new RegularRally();
        Due.due("cell(0, 0, 0)", x.cell(0, 0, 0), LOST);
        Due.due("fault(): nothing is no CAST", x.fault(), 1);
        Due.due("cell(4, 0, 0)", x.cell(4, 0, 0), LOST);
        Due.due("fault()", x.fault(), 0);
        Due.fill(x, 0, 1, 5);
        Due.due("cell(0, 5, 2)", x.cell(0, 5, 2), LOST);
        Due.due("fault(): CAST ahead of INDEX", x.fault(), 2);
        Due.due("cell(0, 0, 0)", x.cell(0, 0, 0), LOST);
        Due.due("fault()", x.fault(), 2);
        Due.due("cell(0, 0, 3)", x.cell(0, 0, 3), LOST);
        Due.due("fault()", x.fault(), 0);
        Due.due("cell(0, 1, 1)", x.cell(0, 1, 1), LOST);
        Due.due("fault()", x.fault(), 3);
        Due.due("cell(0, -1, 1)", x.cell(0, -1, 1), LOST);
        Due.due("fault()", x.fault(), 3);
        Due.due("cell(0, MAX, 1)", x.cell(0, MAX, 1), LOST);
        Due.due("cell(0, 0, -1)", x.cell(0, 0, -1), LOST);
        Due.due("fault()", x.fault(), 0);
        Due.due("cell(0, 0, 1)", x.cell(0, 0, 1), 5);
        Due.due("fault()", x.fault(), 0);
    }

    private static void rowIs(RegularRally x, int k, int... cells) {
        for (int i = 0; i < cells.length; i++) {
            Due.due("cell(" + k + ", " + i + ")", x.cell(k, i, 2), cells[i]);
        }
    }

    private static void copies() {
        RegularRally x = new RegularRally();
        Due.fill(x, 0, 2, 1, 2, 3, 4, 5);
        Due.fill(x, 1, 2, 10, 20, 30);
        Due.due("to another", x.copy(0, 3, 1, 0, 2), 2);
        rowIs(x, 1, 4, 5, 30);
        rowIs(x, 0, 1, 2, 3, 4, 5);
        Due.due("on, in itself", x.copy(0, 0, 0, 1, 4), 4);
        rowIs(x, 0, 1, 1, 2, 3, 4);
        Due.due("back, in itself", x.copy(0, 2, 0, 0, 3), 3);
        rowIs(x, 0, 2, 3, 4, 3, 4);
        Due.due("to where it is", x.copy(0, 0, 0, 0, 5), 5);
        rowIs(x, 0, 2, 3, 4, 3, 4);
        Due.due("none at the ends", x.copy(0, 5, 1, 3, 0), 0);
        Due.due("fault()", x.fault(), 0);
        rowIs(x, 1, 4, 5, 30);
    }

    private static void copiesRefused() {
        RegularRally x = new RegularRally();
        Due.due("copy(4, 0, 0, 0, 0)", x.copy(4, 0, 0, 0, 0), -1);
        Due.due("copy(0, 0, 4, 0, 0)", x.copy(0, 0, 4, 0, 0), -1);
        Due.due("copy(0, 0, -1, 0, -1)", x.copy(0, 0, -1, 0, -1), -1);
        Due.due("both nothing", x.copy(0, 0, 1, 0, 0), -11);
        Due.due("fault()", x.fault(), 1);
        Due.fill(x, 0, 0, 1, 2, 3);
        Due.due("the other nothing", x.copy(0, 0, 1, 0, 1), -11);
        Due.due("the first nothing", x.copy(1, 0, 0, 0, 1), -11);
        Due.fill(x, 1, 1, 1, 2);
        Due.due("unlike lanes, ahead of INDEX", x.copy(0, 9, 1, 0, 1), -12);
        Due.due("fault()", x.fault(), 2);
        Due.fill(x, 1, 0, 7, 8);
        Due.due("i below 0", x.copy(0, -1, 1, 0, 1), -13);
        Due.due("fault()", x.fault(), 3);
        Due.due("j below 0", x.copy(0, 0, 1, -1, 1), -13);
        Due.due("n below 0", x.copy(0, 0, 1, 0, -1), -13);
        Due.due("n far below 0", x.copy(0, 0, 1, 0, MIN), -13);
        Due.due("beyond the first", x.copy(0, 2, 1, 0, 2), -13);
        Due.due("beyond the other", x.copy(0, 0, 1, 0, 3), -13);
        Due.due("i far beyond", x.copy(0, MAX, 1, 0, 1), -13);
        Due.due("j far beyond", x.copy(0, 0, 1, MAX, 1), -13);
        Due.due("n far beyond", x.copy(0, 1, 1, 1, MAX), -13);
        Due.due("all far beyond", x.copy(0, MAX, 1, MAX, MAX), -13);
        Due.due("none beyond the first", x.copy(0, 4, 1, 0, 0), -13);
        Due.due("none beyond the other", x.copy(0, 0, 1, 3, 0), -13);
        Due.due("cell(1, 0, 0): as it was", x.cell(1, 0, 0), 7);
        Due.due("cell(1, 1, 0): as it was", x.cell(1, 1, 0), 8);
    }

    /** Each call that names faults clears the latest one, answered or refused; no other does. */
    private static void faults() {
        RegularRally x = new RegularRally();
        x.road(0, 1, 5, 2);
        x.car(0, 0);
        Due.fill(x, 0, 0, 0, 1);
        Due.book(x, 0, 1);
        for (int call = 0; call < 16; call++) {
            x.put(0, -1, 0);
            Due.due("fault()", x.fault(), 3);
            naming(x, call);
            Due.due("fault() after a call that names one, " + call, x.fault(), 0);
        }
        x.put(0, -1, 0);
        notNaming(x);
        Due.due("fault() after calls that name none", x.fault(), 3);
        Due.due("fault(), asked again", x.fault(), 3);
    }

    private static void naming(RegularRally x, int call) {
        switch (call) {
            case 0: x.wet(0, false); break;
            case 1: x.wet(9, false); break;
            case 2: x.book(0, 0, 0, 2); break;
            case 3: x.book(4, 0, 0, 2); break;
            case 4: x.proof(0, 0, 0, 1); break;
            case 5: x.proof(4, 0, 0, 1); break;
            case 6: x.sheet(1, 0, 2); break;
            case 7: x.sheet(1, 3, 2); break;
            case 8: x.put(0, 0, 0); break;
            case 9: x.put(9, 0, 0); break;
            case 10: x.cell(0, 0, 0); break;
            case 11: x.cell(0, 0, 3); break;
            case 12: x.copy(0, 0, 0, 0, 0); break;
            case 13: x.copy(0, 0, 9, 0, 0); break;
            case 14: x.as(0, 0); break;
            default: x.as(0, 3); break;
        }
    }

    private static void notNaming(RegularRally x) {
        x.road(0, 1, 5, 0);
        x.shut(0, false);
        x.about(0, 0);
        x.ways();
        x.lay();
        x.laid(0);
        x.speed(0, 5);
        x.due(0);
        x.roadAt(0);
        x.control(1);
        x.watch(0, 0, 1, 0, 1);
        x.right(0, 0);
        x.strike(0, false);
        x.car(0, 0);
        x.clock(0, 0, 5);
        x.allow(0, 0, 5);
        x.error(0, 0);
        x.points(0, 0);
        x.result(0, 0);
        x.lose(2);
        x.tell(0);
        x.greet(0);
        x.trace();
        x.told(0);
        x.lose(-1);
        x.shut(-1, true);
    }
}
