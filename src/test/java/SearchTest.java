/** Promises 6 to 10 and 34: the book, the search, the way laid, proofs. */
public final class SearchTest {
    private static final int MIN = Integer.MIN_VALUE;
    private static final int MAX = Integer.MAX_VALUE;
    private static final long LOST = Long.MIN_VALUE;

    public static void main(String[] args) {
        books();
        booksRefused();
        booksFaulty();
        waysOfLeastSum();
        waysByKind();
        laidWays();
        laidAnew();
        layKeepsOnNone();
        layKeepsOnSpent();
        layForgets();
        passingInOrder();
        tenRoadsAtMost();
        trials();
        trialsToTheLimit();
        proofs();
        proofsRefused();
        Due.end();
    }

    private static void books() {
        RegularRally x = new RegularRally();
        Due.fill(x, 0, 0, 7, 1, 2, 1, 0, 3, 4, 5, 9);
        Due.due("book of two", x.book(0, 0, 1, 2), 2);
        Due.due("told(6)", x.told(6), 2);
        Due.due("book of eight", x.book(0, 0, 1, 8), 8);
        Due.due("told(6)", x.told(6), 8);
        Due.due("fault()", x.fault(), 0);
        x.road(1, 2, 5, 0);
        Due.due("book(0, 0, 1, 2)", x.book(0, 0, 1, 2), 2);
        x.put(0, 1, 9);
        Due.due("ways(): the book is a copy", x.ways(), 1);
        x.lose(0);
        Due.due("ways(): the book is a copy", x.ways(), 1);
    }

    private static void booksRefused() {
        RegularRally x = new RegularRally();
        Due.fill(x, 0, 2, 1, 2, 2, 10, 3, -1, 4, 5, 6, 7, 8, 9, 0);
        Due.due("book(4, 2, 0, 2)", x.book(4, 2, 0, 2), -1);
        Due.due("book(-1, 2, 0, 2)", x.book(-1, 2, 0, 2), -1);
        Due.due("book(0, 3, 0, 2)", x.book(0, 3, 0, 2), -2);
        Due.due("book(0, -1, 0, 2)", x.book(0, -1, 0, 2), -2);
        Due.due("book(4, 3, 0, 2): the sheet first", x.book(4, 3, 0, 2), -1);
        Due.due("book of one", x.book(0, 2, 0, 1), -2);
        Due.due("book of none", x.book(0, 2, 0, 0), -2);
        Due.due("book of nine", x.book(0, 2, 4, 9), -2);
        Due.due("two alike", x.book(0, 2, 0, 3), -2);
        Due.due("two alike first", x.book(0, 2, 1, 2), -2);
        Due.due("a spot 10", x.book(0, 2, 2, 2), -2);
        Due.due("a spot -1", x.book(0, 2, 4, 3), -2);
        Due.due("told(6)", x.told(6), 0);
        Due.due("ways()", x.ways(), -3);
        Due.due("fault()", x.fault(), 0);
        Due.due("book of seven", x.book(0, 2, 6, 7), 7);
        Due.due("two alike", x.book(0, 2, 0, 3), -2);
        Due.due("told(6): as it was", x.told(6), 7);
        Due.fill(x, 0, 2, 0, 1, 2, 3, 4, 5, 6, 7, 8);
        Due.due("book of nine spots", x.book(0, 2, 0, 9), -2);
        Due.due("book of eight of them", x.book(0, 2, 1, 8), 8);
    }

    private static void booksFaulty() {
        RegularRally x = new RegularRally();
        Due.due("nothing", x.book(1, 0, 0, 2), -11);
        Due.due("fault()", x.fault(), 1);
        Due.due("nothing, ahead of SIZE", x.book(1, 2, 0, -1), -11);
        Due.due("refused", x.book(1, 3, 0, 2), -2);
        Due.due("fault()", x.fault(), 0);
        Due.fill(x, 1, 1, 1, 2, 3);
        Due.due("another lane", x.book(1, 0, 0, 2), -12);
        Due.due("fault()", x.fault(), 2);
        Due.due("another lane, ahead of SIZE", x.book(1, 2, 0, -1), -12);
        Due.due("SIZE", x.book(1, 1, 0, -1), -14);
        Due.due("fault()", x.fault(), 4);
        Due.due("SIZE ahead of INDEX", x.book(1, 1, -1, MIN), -14);
        Due.due("i below 0", x.book(1, 1, -1, 2), -13);
        Due.due("fault()", x.fault(), 3);
        Due.due("beyond", x.book(1, 1, 2, 2), -13);
        Due.due("far beyond", x.book(1, 1, MAX, 2), -13);
        Due.due("far beyond", x.book(1, 1, 1, MAX), -13);
        Due.due("far beyond", x.book(1, 1, MAX, MAX), -13);
        Due.due("INDEX ahead of OUTSIDE", x.book(1, 1, 4, 0), -13);
        Due.due("none at the end", x.book(1, 1, 3, 0), -2);
        Due.due("fault()", x.fault(), 0);
        Due.due("the last two", x.book(1, 1, 1, 2), 2);
        Due.due("told(6)", x.told(6), 2);
    }

    private static void waysOfLeastSum() {
        RegularRally x = new RegularRally();
        x.road(0, 1, 10, 0);
        x.road(1, 2, 10, 0);
        x.road(0, 2, 21, 0);
        Due.book(x, 0, 2);
        Due.due("ways()", x.ways(), 1);
        x.road(0, 2, 20, 0);
        Due.due("ways()", x.ways(), 2);
        x.road(0, 1, 10, 0);
        Due.due("ways()", x.ways(), 3);
        x.road(2, 0, 19, 0);
        Due.due("ways()", x.ways(), 1);
        x.shut(5, true);
        Due.due("ways()", x.ways(), 3);
        x.shut(1, true);
        Due.due("ways()", x.ways(), 1);
        x.shut(3, true);
        x.shut(2, true);
        Due.due("ways(): none", x.ways(), 0);
        Due.due("told(7) of none", x.told(7), 4);
        Due.book(x, 9, 2);
        Due.due("ways(): none", x.ways(), 0);
        Due.due("told(7): nothing to try", x.told(7), 0);
    }

    private static void waysByKind() {
        RegularRally x = new RegularRally();
        x.road(3, 4, 10, 1);
        x.road(3, 4, 30, 2);
        x.road(4, 3, 40, 0);
        Due.book(x, 3, 4);
        Due.due("lay()", x.lay(), 1);
        Due.due("laid(0): the one way", x.laid(0), 0);
        Due.book(x, 4, 3);
        Due.due("lay()", x.lay(), 1);
        Due.due("laid(0): the ford", x.laid(0), 1);
        x.wet(1, true);
        Due.due("lay()", x.lay(), 1);
        Due.due("laid(0): the road", x.laid(0), 2);
        x.shut(2, true);
        Due.due("lay()", x.lay(), -9);
        x.shut(1, true);
        x.wet(1, false);
        Due.due("lay(): shut, though dry", x.lay(), -9);
        x.shut(1, false);
        Due.due("lay()", x.lay(), 1);
        Due.due("laid(0): the ford", x.laid(0), 1);
    }

    private static void laidWays() {
        RegularRally x = new RegularRally();
        x.road(5, 6, 7, 0);
        x.road(2, 6, 5, 0);
        x.road(1, 2, 3, 0);
        Due.book(x, 1, 5);
        Due.due("lay()", x.lay(), 3);
        Due.due("laid(0)", x.laid(0), 2);
        Due.due("laid(1)", x.laid(1), 1);
        Due.due("laid(2)", x.laid(2), 0);
        Due.due("laid(3)", x.laid(3), -1);
        Due.due("laid(-1)", x.laid(-1), -1);
        Due.due("laid(MAX)", x.laid(MAX), -1);
        Due.due("laid(MIN)", x.laid(MIN), -1);
        Due.due("told(1)", x.told(1), 3);
        Due.due("told(2)", x.told(2), 15);
        x.shut(1, true);
        Due.due("laid(1): as it was laid", x.laid(1), 1);
        Due.due("ways(): as the map is now", x.ways(), 0);
        x.road(5, 1, 15, 0);
        x.shut(1, false);
        Due.due("lay()", x.lay(), 3);
        Due.due("told(1)", x.told(1), 3);
        Due.due("told(2): of the way in its place", x.told(2), 15);
        Due.due("laid(0): the first as rows of roads by number", x.laid(0), 2);
        x.road(1, 6, 8, 0);
        Due.due("ways()", x.ways(), 3);
        Due.due("laid(1): a search lays nothing", x.laid(1), 1);
    }

    /** A road shut on the day: another way of the same sum. */
    private static void laidAnew() {
        RegularRally x = new RegularRally();
        x.road(0, 1, 10, 0);
        x.road(1, 0, 10, 0);
        Due.book(x, 0, 1);
        Due.due("lay()", x.lay(), 1);
        Due.due("laid(0)", x.laid(0), 0);
        x.shut(0, true);
        Due.due("lay()", x.lay(), 1);
        Due.due("laid(0)", x.laid(0), 1);
        Due.due("about(0, 5)", x.about(0, 5), -9);
        Due.due("told(2)", x.told(2), 10);
    }

    private static void layKeepsOnNone() {
        RegularRally x = Due.withWayOf(100);
        x.speed(0, 600);
        x.control(50);
        x.car(0, 0);
        x.clock(0, 0, 60);
        x.allow(0, 0, 9);
        x.shut(0, true);
        Due.due("lay(): none", x.lay(), -9);
        Due.due("told(7): its search", x.told(7), 0);
        Due.due("told(1)", x.told(1), 1);
        Due.due("told(2)", x.told(2), 100);
        Due.due("told(3)", x.told(3), 1);
        Due.due("told(4)", x.told(4), 1);
        Due.due("error(0, 0)", x.error(0, 0), 1);
        Due.due("allow(0, 0, 0)", x.allow(0, 0, 0), 9);
    }

    /** All roads between five spots: far too many ways. */
    private static RegularRally withManyRoads() {
        RegularRally x = new RegularRally();
        for (int r = 0; r < 15; r++) {
            x.road(r % 5, (r + 1 + r / 5) % 5, 1, 0);
        }
        return x;
    }

    private static void layKeepsOnSpent() {
        RegularRally x = withManyRoads();
        Due.book(x, 0, 1);
        Due.due("lay()", x.lay(), 1);
        x.speed(0, 600);
        x.control(1);
        Due.book(x, 0, 9);
        Due.due("ways(): spent", x.ways(), -6);
        Due.due("told(7)", x.told(7), 60000);
        Due.due("lay(): spent", x.lay(), -6);
        Due.due("told(7)", x.told(7), 60000);
        Due.due("told(1)", x.told(1), 1);
        Due.due("told(3)", x.told(3), 1);
        Due.due("told(4)", x.told(4), 1);
        Due.book(x, 1, 0);
        Due.due("ways(): not spent", x.ways(), 1);
        Due.holds("told(7) of another search", x.told(7) < 60000);
    }

    private static void layForgets() {
        RegularRally x = Due.withWayOf(100);
        x.speed(0, 600);
        x.control(50);
        x.control(60);
        x.strike(0, true);
        x.watch(1, 0, 10, 0, 100);
        x.car(1, 0);
        x.clock(0, 0, 60);
        x.clock(0, 1, 70);
        x.allow(0, 1, 9);
        Due.due("lay()", x.lay(), 1);
        Due.due("told(3)", x.told(3), 0);
        Due.due("told(4)", x.told(4), 0);
        Due.due("told(5)", x.told(5), 1);
        Due.due("told(6)", x.told(6), 2);
        Due.due("due(0)", x.due(0), LOST);
        Due.due("result(0, 0)", x.result(0, 0), -3);
        Due.due("points(0, 0)", x.points(0, 0), -1);
        x.speed(0, 600);
        Due.due("control(60)", x.control(60), 0);
        Due.due("control(50)", x.control(50), 1);
        Due.due("right(1, 77): no checks", x.right(1, 77), 77);
        Due.due("strike(0, true): it was not", x.strike(0, true), 1);
        Due.due("strike(0, false)", x.strike(0, false), 1);
        Due.due("points(0, 0): missed", x.points(0, 0), 300);
        Due.due("error(0, 0): not clocked", x.error(0, 0), LOST);
        Due.due("allow(0, 1, 0): was 0", x.allow(0, 1, 0), 0);
        Due.due("clock(0, 0, 90)", x.clock(0, 0, 90), 1);
        Due.due("error(0, 0): the start stays", x.error(0, 0), 29);
        Due.due("clock(0, 1, 51)", x.clock(0, 1, 51), 1);
        Due.due("points(0, 1): out of order anew", x.points(0, 1), 100);
    }

    private static void passingInOrder() {
        RegularRally x = new RegularRally();
        x.road(0, 1, 1, 0);
        x.road(1, 2, 1, 0);
        x.road(2, 0, 1, 0);
        x.road(1, 3, 1, 0);
        x.road(3, 2, 1, 0);
        Due.book(x, 0, 2, 1);
        Due.due("lay()", x.lay(), 2);
        Due.due("laid(0)", x.laid(0), 2);
        Due.due("laid(1)", x.laid(1), 1);
        Due.book(x, 0, 1, 2, 1);
        Due.due("lay()", x.lay(), 4);
        Due.due("laid(3)", x.laid(3), 3);
        Due.book(x, 0, 1, 0, 1);
        Due.due("lay(): no road twice", x.lay(), -9);
        Due.book(x, 0, 1, 0);
        Due.due("lay()", x.lay(), 3);
        Due.due("ways(): there and back", x.ways(), 2);
        Due.book(x, 0, 4);
        Due.due("lay(): no road there", x.lay(), -9);
    }

    private static void tenRoadsAtMost() {
        RegularRally x = new RegularRally();
        for (int spot = 0; spot < 9; spot++) {
            x.road(spot, spot + 1, 1000 + spot, 0);
        }
        x.road(9, 0, 20000, 0);
        Due.book(x, 0, 9, 0);
        Due.due("lay() of ten", x.lay(), 10);
        Due.due("laid(9)", x.laid(9), 9);
        Due.due("laid(10)", x.laid(10), -1);
        Due.due("told(2)", x.told(2), 29036);
        RegularRally y = new RegularRally();
        for (int spot = 0; spot < 5; spot++) {
            y.road(spot, spot + 1, 1, 1);
            y.road(spot + 1, spot, 1, 1);
        }
        y.road(0, 6, 1, 0);
        Due.book(y, 0, 5, 0);
        Due.due("lay() there and back", y.lay(), 10);
        Due.book(y, 0, 5, 0, 6);
        Due.due("lay(): it would take eleven", y.lay(), -9);
    }

    private static void trials() {
        RegularRally x = new RegularRally();
        x.road(0, 1, 10, 0);
        Due.book(x, 0, 1);
        Due.due("ways()", x.ways(), 1);
        Due.due("told(7)", x.told(7), 1);
        x.road(0, 1, 10, 0);
        x.road(0, 1, 11, 0);
        Due.due("ways()", x.ways(), 2);
        Due.due("told(7): one as long counts, a longer one does not", x.told(7), 2);
        x.road(0, 1, 9, 0);
        Due.due("ways()", x.ways(), 1);
        Due.due("told(7)", x.told(7), 3);
        Due.due("lay()", x.lay(), 1);
        Due.due("told(7)", x.told(7), 3);
        RegularRally y = new RegularRally();
        y.road(0, 1, 10, 0);
        y.road(1, 0, 10, 0);
        y.road(1, 2, 5, 1);
        Due.book(y, 2, 0);
        Due.due("ways(): the one way's other way", y.ways(), 0);
        Due.due("told(7)", y.told(7), 0);
        Due.book(y, 0, 9);
        Due.due("ways()", y.ways(), 0);
        Due.due("told(7): 0; 0 1; 0 2; 1; 1 0; 1 2", y.told(7), 6);
        y.told(8);
        y.book(0, 0, 0, 0);
        Due.due("told(7): as it was", y.told(7), 6);
    }

    /** A map, found by trying many, on which a search from 9 for a spot out of reach takes 59998. */
    private static RegularRally withTrialsNearTheLimit() {
        int[][] roads = {
            {9, 0, 1}, {1, 0, 0}, {1, 0, 0}, {1, 3, 0}, {1, 0, 0}, {1, 3, 0},
            {2, 0, 0}, {2, 0, 1}, {0, 1, 1}, {2, 1, 0}, {1, 0, 1}, {1, 0, 0},
        };
        RegularRally x = new RegularRally();
        for (int[] road : roads) {
            x.road(road[0], road[1], 7, road[2]);
        }
        Due.book(x, 9, 5);
        return x;
    }

    private static void trialsToTheLimit() {
        RegularRally x = withTrialsNearTheLimit();
        Due.due("ways()", x.ways(), 0);
        Due.due("told(7)", x.told(7), 59998);
        x.road(9, 8, 7, 1);
        x.road(9, 8, 7, 1);
        Due.due("lay(): 60000 are not more", x.lay(), -9);
        Due.due("told(7)", x.told(7), 60000);
        Due.due("ways()", x.ways(), 0);
        x.road(9, 8, 7, 1);
        Due.due("ways(): one more", x.ways(), -6);
        Due.due("told(7)", x.told(7), 60000);
        Due.due("lay()", x.lay(), -6);
        x.shut(0, true);
        Due.due("ways()", x.ways(), 0);
        Due.due("told(7): the dead ends alone", x.told(7), 3);
    }

    private static void proofs() {
        RegularRally x = new RegularRally();
        x.road(0, 1, 10, 0);
        x.road(2, 1, 20, 1);
        x.road(1, 2, 30, 2);
        x.road(2, 3, 40, 0);
        Due.book(x, 0, 1, 3);
        Due.fill(x, 0, 0, 0, 2, 3, 9);
        Due.due("0 2 3", x.proof(0, 0, 0, 3), 80);
        Due.due("fault()", x.fault(), 0);
        Due.due("0 2", x.proof(0, 0, 0, 2), -100);
        Due.due("none", x.proof(0, 0, 0, 0), -100);
        Due.due("no such road behind", x.proof(0, 0, 0, 4), -4);
        Due.due("not from the first spot", x.proof(0, 0, 1, 2), -1);
        x.wet(2, true);
        Due.due("wet", x.proof(0, 0, 0, 3), -2);
        x.wet(2, false);
        x.shut(3, true);
        Due.due("shut", x.proof(0, 0, 0, 3), -3);
        x.shut(3, false);
        Due.fill(x, 0, 1, 0, 1, 3);
        Due.due("the one way's other way", x.proof(0, 1, 0, 3), -2);
        Due.fill(x, 0, 2, 0, 0, 2, 3);
        Due.due("twice", x.proof(0, 2, 0, 4), -2);
        Due.fill(x, 0, 2, 0, 3);
        Due.due("not at where it ended", x.proof(0, 2, 0, 2), -2);
        Due.fill(x, 0, 2, -1);
        Due.due("road -1", x.proof(0, 2, 0, 1), -1);
        Due.fill(x, 0, 2, 0, MAX, MIN);
        Due.due("road MAX", x.proof(0, 2, 0, 3), -2);
        Due.fill(x, 0, 2, 0, 4);
        Due.due("road 4: the first that is not", x.proof(0, 2, 0, 2), -2);
        Due.fill(x, 0, 2, 0, 2, 1);
        Due.due("ends elsewhere", x.proof(0, 2, 0, 3), -100);
        Due.book(x, 0, 2, 1);
        Due.due("the one way, gone its way", x.proof(0, 2, 0, 3), 60);
        Due.book(x, 0, 1);
        Due.due("the last one found again", x.proof(0, 2, 0, 3), 60);
        Due.due("the last one found once", x.proof(0, 2, 0, 1), 10);
        proofsOfOrder();
        proofsOfLongRows();
    }

    private static void proofsOfOrder() {
        RegularRally x = new RegularRally();
        x.road(0, 1, 10, 0);
        x.road(1, 2, 20, 0);
        x.road(0, 2, 40, 0);
        x.road(2, 1, 80, 0);
        Due.fill(x, 0, 0, 0, 1, 2, 0, 3, 2, 1);
        Due.book(x, 0, 1, 2);
        Due.due("0 1: by 1 to 2", x.proof(0, 0, 0, 2), 30);
        Due.due("2: past 1", x.proof(0, 0, 2, 1), -100);
        Due.book(x, 0, 1, 2, 0);
        Due.due("0 1 2", x.proof(0, 0, 0, 3), 70);
        Due.book(x, 0, 2, 1);
        Due.due("0 1: 1 is ahead of 2 alone", x.proof(0, 0, 0, 2), -100);
        Due.book(x, 0, 1, 0);
        Due.due("0 3 2: by 2, too", x.proof(0, 0, 3, 3), 130);
        Due.book(x, 0, 2, 1, 2, 0);
        Due.due("0 3 2: 2 once", x.proof(0, 0, 3, 3), -100);
    }

    private static void proofsOfLongRows() {
        RegularRally x = new RegularRally();
        for (int r = 0; r < 12; r++) {
            x.road(r % 2, 1 - r % 2, 100 + r, 0);
        }
        Due.book(x, 0, 1, 0);
        Due.fill(x, 1, 0, 0, 1, 2, 3, 4, 5, 6, 7, 8, 9, 10, 11, 11);
        Due.due("two", x.proof(1, 0, 0, 2), 201);
        Due.due("ten", x.proof(1, 0, 0, 10), 1045);
        Due.due("eleven", x.proof(1, 0, 0, 11), -100);
        Due.due("twelve, though it ends there", x.proof(1, 0, 0, 12), -100);
        Due.due("thirteen, the last one twice", x.proof(1, 0, 0, 13), -13);
    }

    private static void proofsRefused() {
        RegularRally x = new RegularRally();
        Due.due("no book", x.proof(0, 0, 0, 1), LOST);
        Due.due("fault(): STATE ahead of NULL", x.fault(), 0);
        Due.book(x, 0, 1);
        Due.due("proof(4, 2, 0, 1)", x.proof(4, 2, 0, 1), LOST);
        Due.due("fault()", x.fault(), 0);
        Due.due("nothing", x.proof(0, 0, 0, 1), LOST);
        Due.due("fault()", x.fault(), 1);
        Due.due("proof(0, 3, 0, 1)", x.proof(0, 3, 0, 1), LOST);
        Due.due("fault()", x.fault(), 0);
        Due.due("another lane", x.proof(3, 1, 0, -1), LOST);
        Due.due("fault()", x.fault(), 2);
        Due.due("SIZE", x.proof(3, 2, -1, -1), LOST);
        Due.due("fault()", x.fault(), 4);
        Due.due("INDEX", x.proof(3, 2, 1, 2), LOST);
        Due.due("fault()", x.fault(), 3);
        Due.due("INDEX", x.proof(3, 2, -1, 1), LOST);
        Due.due("INDEX", x.proof(3, 2, 3, 0), LOST);
        Due.due("INDEX", x.proof(3, 2, 1, MAX), LOST);
        Due.due("INDEX", x.proof(3, 2, MAX, MAX), LOST);
        Due.due("fault()", x.fault(), 3);
        Due.due("at the end, none", x.proof(3, 2, 2, 0), -100);
        Due.due("fault()", x.fault(), 0);
    }
}
