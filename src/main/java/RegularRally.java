/**
 * A regular rally: a map of roads, the least way that passes a book of spots, speeds and controls
 * along it, cars and their results, and sheets of numbers.
 *
 * <p>The document's words (SPOT, BOOK, DUE, STRUCK and so on) are kept as names. Everything that
 * one object ever needs, but roads, cars and controls, is made with it, so that calls make next to
 * nothing.
 */
public final class RegularRally {
    public static final int UNKNOWN = -1, OUTSIDE = -2, STATE = -3, FULL = -4, SPENT = -6, NONE = -9;
    public static final long LOST = Long.MIN_VALUE;

    private static final int NULL_FAULT = 1;
    private static final int CAST_FAULT = 2;
    private static final int INDEX_FAULT = 3;
    private static final int SIZE_FAULT = 4;

    private static final int SPOTS = 10;
    private static final int MOST_ROADS = 16;
    private static final int LONGEST_ROAD = 20000;
    private static final int LONGEST_BOOK = 8;
    private static final int LONGEST_WAY = 10;
    private static final int MOST_TRIALS = 60000;
    private static final int MOST_SPEEDS = 8;
    private static final int FASTEST = 3000;
    private static final int MOST_CONTROLS = 8;
    private static final int MOST_CARS = 8;
    private static final int LATEST_START = 500000;
    private static final int LATEST_TIME = 1000000;
    private static final int MOST_CLAIMED = 3000;
    private static final int MOST_ALLOWED_AT_ONE = 600;
    private static final int MOST_ALLOWED = 1500;
    private static final int MOST_POINTS = 300;
    private static final int MOST_POINTS_OF_NOVICE = 50;
    private static final int POINTS_OUT_OF_ORDER = 100;
    private static final int SHEETS = 4;
    private static final int LONGEST_SHEET = 32;
    private static final long NO_WAY = -100;

    private final Road[] roads = new Road[MOST_ROADS];
    private int roadCount;
    private final Book theBook = new Book();
    private final Search search = new Search();
    private final Way way = new Way();
    private final Control[] controls = new Control[MOST_CONTROLS];
    private int controlCount;
    private final Car[] cars = new Car[MOST_CARS];
    private int carCount;
    private final Sheet[] sheets = new Sheet[SHEETS];
    private int traceSum;
    private int latestFault;

    public RegularRally() {
        for (int k = 0; k < SHEETS; k++) {
            sheets[k] = new Sheet();
        }
    }

    // ---- 1 the map, the way

    public int road(int a, int b, int length, int kind) {
        if (!isSpot(a) || !isSpot(b)) {
            return UNKNOWN;
        }
        if (a == b || !isWithin(length, 1, LONGEST_ROAD) || !isWithin(kind, 0, 2)) {
            return OUTSIDE;
        }
        if (roadCount >= MOST_ROADS) {
            return FULL;
        }
        roads[roadCount] = newRoad(a, b, length, kind);
        roadCount++;
        return roadCount - 1;
    }

    public int shut(int r, boolean is) {
        Road road = roadOf(r);
        if (road == null) {
            return UNKNOWN;
        }
        if (road.isShut == is) {
            return 0;
        }
        road.isShut = is;
        return 1;
    }

    public int wet(int r, boolean is) {
        latestFault = 0;
        Road road = roadOf(r);
        if (road == null) {
            return UNKNOWN;
        }
        if (road instanceof Ford ford) {
            int changed = ford.isWet == is ? 0 : 1;
            ford.isWet = is;
            return changed;
        }
        return answerOfFault(CAST_FAULT);
    }

    public int about(int r, int what) {
        Road road = roadOf(r);
        if (road == null) {
            return UNKNOWN;
        }
        switch (what) {
            case 0:
                return road.a;
            case 1:
                return road.b;
            case 2:
                return road.length;
            case 3:
                return road.kind;
            case 4:
                return road.isOpen() ? 0 : 1;
            case 5:
                return way.placeOfRoad(r);
            default:
                return OUTSIDE;
        }
    }

    public int book(int k, int lane, int i, int n) {
        latestFault = 0;
        Sheet sheet = sheetOf(k);
        if (sheet == null) {
            return UNKNOWN;
        }
        if (!isLane(lane)) {
            return OUTSIDE;
        }
        int fault = sheet.faultOfCells(lane, i, n);
        if (fault != 0) {
            return answerOfFault(fault);
        }
        if (!isWithin(n, 2, LONGEST_BOOK) || !areBookSpots(sheet.cells, i, n)) {
            return OUTSIDE;
        }
        theBook.become(sheet.cells, i, n);
        return n;
    }

    public int ways() {
        if (theBook.count == 0) {
            return STATE;
        }
        searchTheMap();
        return search.isSpent ? SPENT : search.waysFound;
    }

    public int lay() {
        if (theBook.count == 0) {
            return STATE;
        }
        searchTheMap();
        if (search.isSpent) {
            return SPENT;
        }
        if (search.waysFound == 0) {
            return NONE;
        }
        layTheBest();
        return way.count;
    }

    public int laid(int i) {
        return isWithin(i, 0, way.count - 1) ? way.row[i] : UNKNOWN;
    }

    public long proof(int k, int lane, int i, int n) {
        latestFault = 0;
        Sheet sheet = sheetOf(k);
        if (sheet == null || !isLane(lane) || theBook.count == 0) {
            return LOST;
        }
        int fault = sheet.faultOfCells(lane, i, n);
        if (fault != 0) {
            return lostByFault(fault);
        }
        return proofOfRow(sheet.cells, i, n);
    }

    // ---- 2 speeds, controls

    public int speed(int place, int v) {
        if (!isWithin(v, 1, FASTEST)) {
            return OUTSIDE;
        }
        if (way.count == 0) {
            return STATE;
        }
        if (!isWithin(place, 0, way.metres)) {
            return OUTSIDE;
        }
        if (way.speedCount >= MOST_SPEEDS) {
            return FULL;
        }
        way.addSpeed(place, v);
        return way.speedCount;
    }

    public long due(int place) {
        if (!way.hasFirstSpeed() || !isWithin(place, 0, way.metres)) {
            return LOST;
        }
        return way.dueAt(place);
    }

    public int roadAt(int place) {
        if (way.count == 0) {
            return STATE;
        }
        if (!isWithin(place, 0, way.metres)) {
            return OUTSIDE;
        }
        return way.roadUnder(place);
    }

    public int control(int place) {
        if (way.count == 0) {
            return STATE;
        }
        if (!isWithin(place, 1, way.metres)) {
            return OUTSIDE;
        }
        if (isControlAt(place)) {
            return STATE;
        }
        if (controlCount >= MOST_CONTROLS) {
            return FULL;
        }
        controls[controlCount] = new Control(place);
        controlCount++;
        return controlCount - 1;
    }

    public int watch(int c, int a, int b, int x, int y) {
        Control control = controlOf(c);
        if (control == null) {
            return UNKNOWN;
        }
        if (!isSpanOfTime(a, b) || !isSpanOfTime(x, y)) {
            return OUTSIDE;
        }
        control.check(a, b, x, y);
        return 1;
    }

    public long right(int c, int t) {
        Control control = controlOf(c);
        if (control == null || !isTime(t)) {
            return LOST;
        }
        return control.putRight(t);
    }

    public int strike(int c, boolean is) {
        Control control = controlOf(c);
        if (control == null) {
            return UNKNOWN;
        }
        if (control.isStruck == is) {
            return 0;
        }
        control.isStruck = is;
        return 1;
    }

    // ---- 3 cars

    public int car(int start, int kind) {
        if (!isWithin(start, 0, LATEST_START) || !isWithin(kind, 0, 2)) {
            return OUTSIDE;
        }
        if (carCount >= MOST_CARS) {
            return FULL;
        }
        cars[carCount] = newCar(carCount, start, kind);
        carCount++;
        return carCount - 1;
    }

    public int clock(int car, int c, int t) {
        Car one = carOf(car);
        if (one == null || controlOf(c) == null) {
            return UNKNOWN;
        }
        if (!isTime(t)) {
            return OUTSIDE;
        }
        if (one.isClockedAt(c)) {
            return STATE;
        }
        one.arrive(c, t);
        return 1;
    }

    public int allow(int car, int c, int a) {
        Car one = carOf(car);
        if (one == null || controlOf(c) == null) {
            return UNKNOWN;
        }
        if (!isWithin(a, 0, MOST_CLAIMED)) {
            return OUTSIDE;
        }
        int was = one.claims[c];
        one.claims[c] = a;
        return was;
    }

    public long error(int car, int c) {
        Car one = carOf(car);
        if (one == null || controlOf(c) == null) {
            return LOST;
        }
        if (!one.isClockedAt(c) || !way.hasFirstSpeed()) {
            return LOST;
        }
        return errorOf(one, c);
    }

    public int points(int car, int c) {
        Car one = carOf(car);
        if (one == null || controlOf(c) == null) {
            return UNKNOWN;
        }
        if (!way.hasFirstSpeed()) {
            return STATE;
        }
        return pointsOf(one, c);
    }

    public int result(int car, int what) {
        Car one = carOf(car);
        if (one == null) {
            return UNKNOWN;
        }
        if (!isWithin(what, 0, 3)) {
            return OUTSIDE;
        }
        if (!way.hasFirstSpeed()) {
            return STATE;
        }
        switch (what) {
            case 0:
                return totalOf(one);
            case 1:
                return rankOf(one);
            case 2:
                return missedBy(one);
            default:
                return outOfOrderBy(one);
        }
    }

    // ---- 4 sheets, parts

    public int sheet(int k, int lane, int n) {
        latestFault = 0;
        Sheet sheet = sheetOf(k);
        if (sheet == null) {
            return UNKNOWN;
        }
        if (!isLane(lane) || n > LONGEST_SHEET) {
            return OUTSIDE;
        }
        if (n < 0) {
            return answerOfFault(SIZE_FAULT);
        }
        sheet.begin(lane, n);
        return 1;
    }

    public int lose(int k) {
        Sheet sheet = sheetOf(k);
        if (sheet == null) {
            return UNKNOWN;
        }
        if (!sheet.hasRow) {
            return 0;
        }
        sheet.hasRow = false;
        return 1;
    }

    public int put(int k, int i, int v) {
        latestFault = 0;
        Sheet sheet = sheetOf(k);
        if (sheet == null) {
            return UNKNOWN;
        }
        int fault = sheet.faultOfCells(sheet.lane, i, 1);
        if (fault != 0) {
            return answerOfFault(fault);
        }
        sheet.cells[i] = cutToLane(v, sheet.lane);
        return 1;
    }

    public long cell(int k, int i, int lane) {
        latestFault = 0;
        Sheet sheet = sheetOf(k);
        if (sheet == null || !isLane(lane)) {
            return LOST;
        }
        int fault = sheet.faultOfCells(lane, i, 1);
        if (fault != 0) {
            return lostByFault(fault);
        }
        return sheet.cells[i];
    }

    public int copy(int k, int i, int other, int j, int n) {
        latestFault = 0;
        Sheet from = sheetOf(k);
        Sheet to = sheetOf(other);
        if (from == null || to == null) {
            return UNKNOWN;
        }
        if (!from.hasRow || !to.hasRow) {
            return answerOfFault(NULL_FAULT);
        }
        if (from.lane != to.lane) {
            return answerOfFault(CAST_FAULT);
        }
        if (n < 0 || !from.holds(i, n) || !to.holds(j, n)) {
            return answerOfFault(INDEX_FAULT);
        }
        System.arraycopy(from.cells, i, to.cells, j, n);
        return n;
    }

    public int tell(int r) {
        Road road = roadOf(r);
        if (road == null) {
            return UNKNOWN;
        }
        return road.telling(this);
    }

    public int greet(int car) {
        Car one = carOf(car);
        if (one == null) {
            return UNKNOWN;
        }
        return one.greeting(this);
    }

    public int as(int car, int kind) {
        latestFault = 0;
        Car one = carOf(car);
        if (one == null) {
            return UNKNOWN;
        }
        if (!isWithin(kind, 0, 2)) {
            return OUTSIDE;
        }
        return isOfClass(one, kind) ? 1 : answerOfFault(CAST_FAULT);
    }

    public int trace() {
        return traceSum;
    }

    public int fault() {
        return latestFault;
    }

    public int told(int what) {
        switch (what) {
            case 0:
                return roadCount;
            case 1:
                return way.count;
            case 2:
                return way.metres;
            case 3:
                return way.speedCount;
            case 4:
                return controlCount;
            case 5:
                return carCount;
            case 6:
                return theBook.count;
            case 7:
                return search.trials;
            default:
                return OUTSIDE;
        }
    }

    // ---- what arguments may be

    private static boolean isWithin(int v, int least, int most) {
        return v >= least && v <= most;
    }

    private static boolean isSpot(int spot) {
        return isWithin(spot, 0, SPOTS - 1);
    }

    private static boolean isLane(int lane) {
        return isWithin(lane, 0, 2);
    }

    private static boolean isTime(int t) {
        return isWithin(t, 0, LATEST_TIME);
    }

    private static boolean isSpanOfTime(int from, int to) {
        return isTime(from) && isTime(to) && from < to;
    }

    private Road roadOf(int r) {
        return isWithin(r, 0, roadCount - 1) ? roads[r] : null;
    }

    private Control controlOf(int c) {
        return isWithin(c, 0, controlCount - 1) ? controls[c] : null;
    }

    private Car carOf(int car) {
        return isWithin(car, 0, carCount - 1) ? cars[car] : null;
    }

    private Sheet sheetOf(int k) {
        return isWithin(k, 0, SHEETS - 1) ? sheets[k] : null;
    }

    // ---- faults and the trace

    private int answerOfFault(int fault) {
        latestFault = fault;
        return -10 - fault;
    }

    private long lostByFault(int fault) {
        latestFault = fault;
        return LOST;
    }

    private void leaveNumber(int number) {
        traceSum = 31 * traceSum + number;
    }

    // ---- the map

    private static Road newRoad(int a, int b, int length, int kind) {
        if (kind == 1) {
            return new OneWay(a, b, length);
        }
        if (kind == 2) {
            return new Ford(a, b, length);
        }
        return new Road(a, b, length, 0);
    }

    private static boolean areBookSpots(int[] cells, int from, int n) {
        for (int p = from; p < from + n; p++) {
            if (!isSpot(cells[p]) || p > from && cells[p] == cells[p - 1]) {
                return false;
            }
        }
        return true;
    }

    private void searchTheMap() {
        search.begin(roads, roadCount, theBook);
        goOn(search, theBook.spots[0], 0, 0, 1);
    }

    /** Tries the roads that leave a spot, after a row of so many roads with a sum and spots met. */
    private static void goOn(Search search, int spot, int depth, int sum, int met) {
        if (depth >= LONGEST_WAY) {
            return;
        }
        for (int e = 0; e < search.exits[spot]; e++) {
            int exit = spot * MOST_ROADS + e;
            int r = search.exitRoads[exit];
            int longer = sum + search.exitLengths[exit];
            if (search.isInRow(r) || search.isTooLong(longer)) {
                continue;
            }
            if (search.trials >= MOST_TRIALS) {
                search.isSpent = true;
                return;
            }
            search.trials++;
            search.row[depth] = r;
            int end = search.exitEnds[exit];
            int metThere = search.sought.metAfter(met, end);
            if (search.sought.isPassed(metThere, end)) {
                search.found(depth + 1, longer);
            }
            search.rowRoads |= 1 << r;
            goOn(search, end, depth + 1, longer, metThere);
            search.rowRoads &= ~(1 << r);
            if (search.isSpent) {
                return;
            }
        }
    }

    private void layTheBest() {
        way.begin();
        for (int p = 0; p < search.bestCount; p++) {
            Road road = roadOf(search.best[p]);
            if (road != null) {
                way.addRoad(search.best[p], road.length);
            }
        }
        controlCount = 0;
        for (int car = 0; car < carCount; car++) {
            cars[car].forgetTheWay();
        }
    }

    private long proofOfRow(int[] cells, int from, int n) {
        int spot = theBook.spots[0];
        int met = 1;
        int rowRoads = 0;
        long sum = 0;
        for (int p = 0; p < n; p++) {
            int r = cells[from + p];
            Road road = roadOf(r);
            int end = road == null ? NONE : road.endFrom(spot);
            if (road == null || end == NONE || (rowRoads >> r & 1) != 0) {
                return -1 - p;
            }
            rowRoads |= 1 << r;
            sum += road.length;
            spot = end;
            met = theBook.metAfter(met, end);
        }
        return n <= LONGEST_WAY && theBook.isPassed(met, spot) ? sum : NO_WAY;
    }

    // ---- controls and cars

    private boolean isControlAt(int place) {
        for (int c = 0; c < controlCount; c++) {
            if (controls[c].place == place) {
                return true;
            }
        }
        return false;
    }

    private static Car newCar(int number, int start, int kind) {
        if (kind == 1) {
            return new Old(number, start);
        }
        if (kind == 2) {
            return new Novice(number, start);
        }
        return new Car(number, start);
    }

    private static boolean isOfClass(Car car, int kind) {
        if (kind == 1) {
            return car instanceof Old;
        }
        if (kind == 2) {
            return car instanceof Novice;
        }
        return true;
    }

    private long errorOf(Car car, int c) {
        int place = controls[c].place;
        long error = controls[c].putRight(car.times[c]) - car.start - way.dueAt(place);
        return error > 0 ? Math.max(0, error - carriedTo(car, place)) : error;
    }

    private int carriedTo(Car car, int place) {
        int sum = 0;
        for (int c = 0; c < controlCount; c++) {
            if (controls[c].place <= place) {
                sum += Math.min(car.claims[c], MOST_ALLOWED_AT_ONE);
            }
        }
        return Math.min(sum, MOST_ALLOWED);
    }

    private int pointsOf(Car car, int c) {
        if (controls[c].isStruck) {
            return 0;
        }
        if (!car.isClockedAt(c)) {
            return MOST_POINTS;
        }
        if (isOutOfOrder(car, c)) {
            return POINTS_OUT_OF_ORDER;
        }
        return car.share(pointsForError(errorOf(car, c)));
    }

    private static int pointsForError(long error) {
        long seconds = (Math.abs(error) + 9) / 10;
        return (int) Math.min(error < 0 ? 2 * seconds : seconds, MOST_POINTS);
    }

    private boolean isOutOfOrder(Car car, int c) {
        for (int other = 0; other < controlCount; other++) {
            if (!controls[other].isStruck
                    && controls[other].place > controls[c].place
                    && car.isClockedAt(other)
                    && car.arrivals[other] < car.arrivals[c]) {
                return true;
            }
        }
        return false;
    }

    private int totalOf(Car car) {
        int total = 0;
        for (int c = 0; c < controlCount; c++) {
            total += pointsOf(car, c);
        }
        return total;
    }

    private int rankOf(Car car) {
        int total = totalOf(car);
        int rank = 1;
        for (int k = 0; k < carCount; k++) {
            int otherTotal = totalOf(cars[k]);
            if (otherTotal < total || otherTotal == total && isBetterOfTie(cars[k], car)) {
                rank++;
            }
        }
        return rank;
    }

    /** Whether, of two cars of one total, the first is better. */
    private boolean isBetterOfTie(Car one, Car other) {
        boolean better = one.number < other.number;
        // beyond every control
        int firstUnlike = way.metres + 1;
        for (int c = 0; c < controlCount; c++) {
            int ofOne = pointsOf(one, c);
            int ofOther = pointsOf(other, c);
            if (ofOne != ofOther && controls[c].place < firstUnlike) {
                firstUnlike = controls[c].place;
                better = ofOne < ofOther;
            }
        }
        return better;
    }

    private int missedBy(Car car) {
        int count = 0;
        for (int c = 0; c < controlCount; c++) {
            if (!controls[c].isStruck && !car.isClockedAt(c)) {
                count++;
            }
        }
        return count;
    }

    private int outOfOrderBy(Car car) {
        int count = 0;
        for (int c = 0; c < controlCount; c++) {
            if (!controls[c].isStruck && car.isClockedAt(c) && isOutOfOrder(car, c)) {
                count++;
            }
        }
        return count;
    }

    // ---- sheets

    private static int cutToLane(int v, int lane) {
        if (lane == 0) {
            return (byte) v;
        }
        return lane == 1 ? (short) v : v;
    }

    // ---- classes

    private static class Road {
        final int a;
        final int b;
        final int length;
        final int kind;
        boolean isShut;

        Road(int a, int b, int length, int kind) {
            this.a = a;
            this.b = b;
            this.length = length;
            this.kind = kind;
        }

        boolean isOpen() {
            return !isShut;
        }

        /** The spot at which the road ends, if it is gone from a spot; NONE: it can't be. */
        int endFrom(int spot) {
            if (!isOpen()) {
                return NONE;
            }
            if (spot == a) {
                return b;
            }
            return spot == b ? a : NONE;
        }

        int telling(RegularRally rally) {
            rally.leaveNumber(1);
            return length;
        }
    }

    private static final class OneWay extends Road {
        OneWay(int a, int b, int length) {
            super(a, b, length, 1);
        }

        int endFrom(int spot) {
            return spot == a ? super.endFrom(spot) : NONE;
        }

        int telling(RegularRally rally) {
            rally.leaveNumber(2);
            return 1 + super.telling(rally);
        }
    }

    private static final class Ford extends Road {
        boolean isWet;

        Ford(int a, int b, int length) {
            super(a, b, length, 2);
        }

        boolean isOpen() {
            return !isWet && super.isOpen();
        }

        int telling(RegularRally rally) {
            rally.leaveNumber(3);
            int ofRoad = super.telling(rally);
            return isWet ? -ofRoad : ofRoad;
        }
    }

    private static final class Book {
        final int[] spots = new int[LONGEST_BOOK];
        int count;

        void become(int[] cells, int from, int n) {
            for (int p = 0; p < n; p++) {
                spots[p] = cells[from + p];
            }
            count = n;
        }

        /** How many of the spots are met in their order, after so many, when a road ends at one. */
        int metAfter(int met, int end) {
            return met < count && spots[met] == end ? met + 1 : met;
        }

        boolean isPassed(int met, int end) {
            return met == count && spots[count - 1] == end;
        }
    }

    private static final class Search {
        // what may be gone from each spot, by number of road: row spot of MOST_ROADS entries
        final int[] exits = new int[SPOTS];
        final int[] exitRoads = new int[SPOTS * MOST_ROADS];
        final int[] exitEnds = new int[SPOTS * MOST_ROADS];
        final int[] exitLengths = new int[SPOTS * MOST_ROADS];
        Book sought;
        final int[] row = new int[LONGEST_WAY];
        int rowRoads;
        int trials;
        boolean isSpent;
        final int[] best = new int[LONGEST_WAY];
        int bestCount;
        int bestSum;
        int waysFound;

        void begin(Road[] roads, int roadCount, Book book) {
            sought = book;
            rowRoads = 0;
            trials = 0;
            isSpent = false;
            waysFound = 0;
            for (int spot = 0; spot < SPOTS; spot++) {
                exits[spot] = 0;
                for (int r = 0; r < roadCount; r++) {
                    addExit(spot, r, roads[r]);
                }
            }
        }

        private void addExit(int spot, int r, Road road) {
            int end = road.endFrom(spot);
            if (end == NONE) {
                return;
            }
            int exit = spot * MOST_ROADS + exits[spot];
            exitRoads[exit] = r;
            exitEnds[exit] = end;
            exitLengths[exit] = road.length;
            exits[spot]++;
        }

        boolean isInRow(int r) {
            return (rowRoads >> r & 1) != 0;
        }

        boolean isTooLong(int sum) {
            return waysFound > 0 && sum > bestSum;
        }

        /** The row's first roads are a way: the best so far, or one more as short. */
        void found(int count, int sum) {
            if (waysFound > 0 && sum == bestSum) {
                waysFound++;
                return;
            }
            // a longer one is no trial, so this one is shorter than the best, or the first
            waysFound = 1;
            bestSum = sum;
            bestCount = count;
            for (int p = 0; p < count; p++) {
                best[p] = row[p];
            }
        }
    }

    private static final class Way {
        final int[] row = new int[LONGEST_WAY];
        final int[] ends = new int[LONGEST_WAY];
        int count;
        int metres;
        final int[] speedPlaces = new int[MOST_SPEEDS];
        final int[] speeds = new int[MOST_SPEEDS];
        int speedCount;

        void begin() {
            count = 0;
            metres = 0;
            speedCount = 0;
        }

        void addRoad(int r, int length) {
            if (count < LONGEST_WAY) {
                metres += length;
                row[count] = r;
                ends[count] = metres;
                count++;
            }
        }

        int placeOfRoad(int r) {
            for (int p = 0; p < count; p++) {
                if (row[p] == r) {
                    return p;
                }
            }
            return NONE;
        }

        /** The road at a place from 0 to the end of a way that is laid. */
        int roadUnder(int place) {
            for (int p = 0; p < count; p++) {
                if (place < ends[p]) {
                    return row[p];
                }
            }
            return count > 0 ? row[count - 1] : NONE;
        }

        void addSpeed(int place, int v) {
            if (speedCount < MOST_SPEEDS) {
                speedPlaces[speedCount] = place;
                speeds[speedCount] = v;
                speedCount++;
            }
        }

        boolean hasFirstSpeed() {
            return speedFrom(0) > 0;
        }

        /** The speed told latest from this very place on; 0: none. */
        private int speedFrom(int place) {
            int v = 0;
            for (int s = 0; s < speedCount; s++) {
                if (speedPlaces[s] == place) {
                    v = speeds[s];
                }
            }
            return v;
        }

        long dueAt(int place) {
            long sum = 0;
            int from = 0;
            // each round but the last begins at another place of a speed
            for (int round = 0; round < MOST_SPEEDS && from < place; round++) {
                int to = endOfStretch(from, place);
                int v = speedFrom(from);
                if (v > 0) {
                    sum += 600L * (to - from) / v;
                }
                from = to;
            }
            return sum;
        }

        private int endOfStretch(int from, int most) {
            int to = most;
            for (int s = 0; s < speedCount; s++) {
                if (speedPlaces[s] > from && speedPlaces[s] < to) {
                    to = speedPlaces[s];
                }
            }
            return to;
        }
    }

    private static final class Control {
        final int place;
        boolean isStruck;
        private int trueFrom;
        private long trueSpan;
        private int shownFrom;
        // 0: the watch has no checks
        private long shownSpan;

        Control(int place) {
            this.place = place;
        }

        void check(int a, int b, int x, int y) {
            trueFrom = a;
            trueSpan = b - a;
            shownFrom = x;
            shownSpan = y - x;
        }

        long putRight(int t) {
            return shownSpan > 0 ? trueFrom + (t - shownFrom) * trueSpan / shownSpan : t;
        }
    }

    private static class Car {
        final int number;
        final int start;
        final int[] times = new int[MOST_CONTROLS];
        // 1 for the control that it came to first, and so on; 0: not clocked
        final int[] arrivals = new int[MOST_CONTROLS];
        private int arrivalCount;
        final int[] claims = new int[MOST_CONTROLS];

        Car(int number, int start) {
            this.number = number;
            this.start = start;
        }

        boolean isClockedAt(int c) {
            return arrivals[c] > 0;
        }

        void arrive(int c, int t) {
            arrivalCount++;
            arrivals[c] = arrivalCount;
            times[c] = t;
        }

        void forgetTheWay() {
            arrivalCount = 0;
            for (int c = 0; c < MOST_CONTROLS; c++) {
                arrivals[c] = 0;
                claims[c] = 0;
            }
        }

        /** What the car takes of the points that its error makes. */
        int share(int points) {
            return points;
        }

        int greeting(RegularRally rally) {
            rally.leaveNumber(4);
            return 10 * number;
        }
    }

    private static class Old extends Car {
        Old(int number, int start) {
            super(number, start);
        }

        int share(int points) {
            return points / 2;
        }

        int greeting(RegularRally rally) {
            rally.leaveNumber(5);
            return 7;
        }
    }

    private static final class Novice extends Old {
        Novice(int number, int start) {
            super(number, start);
        }

        int share(int points) {
            return Math.min(super.share(points), MOST_POINTS_OF_NOVICE);
        }

        int greeting(RegularRally rally) {
            rally.leaveNumber(6);
            return super.greeting(rally) + 1;
        }
    }

    private static final class Sheet {
        final int[] cells = new int[LONGEST_SHEET];
        boolean hasRow;
        int lane;
        private int count;

        void begin(int newLane, int n) {
            hasRow = true;
            lane = newLane;
            count = n;
            for (int i = 0; i < LONGEST_SHEET; i++) {
                cells[i] = 0;
            }
        }

        /** Whether the row has n cells, none or more, from i on. */
        boolean holds(int i, int n) {
            return i >= 0 && i <= count && n <= count - i;
        }

        /** The fault of taking n cells from i on, as cells of a lane; 0: none. */
        int faultOfCells(int asLane, int i, int n) {
            if (hasRow && lane != asLane) {
                return CAST_FAULT;
            }
            if (!hasRow) {
                return NULL_FAULT;
            }
            if (n < 0) {
                return SIZE_FAULT;
            }
            return holds(i, n) ? 0 : INDEX_FAULT;
        }
    }
}
