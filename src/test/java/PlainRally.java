import java.util.ArrayList;
import java.util.HashMap;
import java.util.List;
import java.util.Map;
import java.util.TreeMap;

/**
 * The document told a second time, by the Java library and without thrift: each call works out
 * what it answers from what was told, so that it and RegularRally go wrong in different ways.
 */
final class PlainRally {
    private static final int UNKNOWN = -1;
    private static final int OUTSIDE = -2;
    private static final int STATE = -3;
    private static final int FULL = -4;
    private static final int SPENT = -6;
    private static final int NONE = -9;
    private static final long LOST = Long.MIN_VALUE;
    private static final int[] LEAST = {Byte.MIN_VALUE, Short.MIN_VALUE, Integer.MIN_VALUE};

    private record Mark(int place, int v) { }

    private static final class Road {
        int a;
        int b;
        int length;
        int kind;
        boolean shut;
        boolean wet;
    }

    private static final class Control {
        int place;
        int[] checks;
        boolean struck;
    }

    private static final class Car {
        int start;
        int kind;
        List<Integer> cameTo = new ArrayList<>();
        Map<Integer, Integer> times = new HashMap<>();
        Map<Integer, Integer> claims = new HashMap<>();
    }

    private static final class Row {
        int lane;
        List<Integer> cells = new ArrayList<>();
    }

    private final List<Road> roads = new ArrayList<>();
    private List<Integer> book = new ArrayList<>();
    private List<Integer> way = new ArrayList<>();
    private final List<Mark> speeds = new ArrayList<>();
    private final List<Control> controls = new ArrayList<>();
    private final List<Car> cars = new ArrayList<>();
    private final Row[] rows = new Row[4];
    private int traced;
    private int faulted;
    private int trials;
    private final List<List<Integer>> found = new ArrayList<>();

    // the map

    int road(int a, int b, int length, int kind) {
        if (a < 0 || a > 9 || b < 0 || b > 9) return UNKNOWN;
        if (a == b || length < 1 || length > 20000 || kind < 0 || kind > 2) return OUTSIDE;
        if (roads.size() == 16) return FULL;
        Road road = new Road();
        road.a = a;
        road.b = b;
        road.length = length;
        road.kind = kind;
        roads.add(road);
        return roads.size() - 1;
    }

    private boolean noRoad(int r) {
        return r < 0 || r >= roads.size();
    }

    int shut(int r, boolean is) {
        if (noRoad(r)) return UNKNOWN;
        boolean was = roads.get(r).shut;
        roads.get(r).shut = is;
        return was == is ? 0 : 1;
    }

    int wet(int r, boolean is) {
        faulted = 0;
        if (noRoad(r)) return UNKNOWN;
        if (roads.get(r).kind != 2) return fault(2);
        boolean was = roads.get(r).wet;
        roads.get(r).wet = is;
        return was == is ? 0 : 1;
    }

    int about(int r, int what) {
        if (noRoad(r)) return UNKNOWN;
        Road road = roads.get(r);
        if (what == 0) return road.a;
        if (what == 1) return road.b;
        if (what == 2) return road.length;
        if (what == 3) return road.kind;
        if (what == 4) return road.shut || road.wet ? 1 : 0;
        if (what == 5) return way.contains(r) ? way.indexOf(r) : NONE;
        return OUTSIDE;
    }

    private int fault(int which) {
        faulted = which;
        return -10 - which;
    }

    private int cellsFault(Row row, int lane, int i, int n) {
        if (row != null && row.lane != lane) return 2;
        if (row == null) return 1;
        if (n < 0) return 4;
        return i < 0 || (long) i + n > row.cells.size() ? 3 : 0;
    }

    private static boolean noSheet(int k) {
        return k < 0 || k > 3;
    }

    private static boolean noLane(int lane) {
        return lane < 0 || lane > 2;
    }

    int book(int k, int lane, int i, int n) {
        faulted = 0;
        if (noSheet(k)) return UNKNOWN;
        if (noLane(lane)) return OUTSIDE;
        int f = cellsFault(rows[k], lane, i, n);
        if (f != 0) return fault(f);
        if (n < 2 || n > 8) return OUTSIDE;
        List<Integer> cells = rows[k].cells.subList(i, i + n);
        for (int p = 0; p < n; p++) {
            int spot = cells.get(p);
            if (spot < 0 || spot > 9 || p > 0 && cells.get(p - 1) == spot) return OUTSIDE;
        }
        book = new ArrayList<>(cells);
        return n;
    }

    /** The spot at which a road ends, gone from a spot; -1: it can't be. */
    int otherEnd(int r, int spot) {
        Road road = roads.get(r);
        if (road.shut || road.wet) return -1;
        if (road.a == spot) return road.b;
        return road.b == spot && road.kind != 1 ? road.a : -1;
    }

    private List<Integer> endsOf(List<Integer> row) {
        List<Integer> ends = new ArrayList<>();
        int spot = book.get(0);
        for (int r : row) {
            spot = otherEnd(r, spot);
            ends.add(spot);
        }
        return ends;
    }

    private int sumOf(List<Integer> row) {
        int sum = 0;
        for (int r : row) sum += roads.get(r).length;
        return sum;
    }

    private boolean passes(List<Integer> row) {
        List<Integer> ends = endsOf(row);
        int behind = 0;
        for (int spot : book.subList(1, book.size())) {
            int at = ends.subList(behind, ends.size()).indexOf(spot);
            if (at < 0) return false;
            behind += at + 1;
        }
        return ends.get(ends.size() - 1).equals(book.get(book.size() - 1));
    }

    /** Whether the search was not spent; the ways found of the least sum are in found. */
    private boolean search() {
        trials = 0;
        found.clear();
        return goOn(new ArrayList<>());
    }

    private boolean goOn(List<Integer> row) {
        if (row.size() == 10) return true;
        List<Integer> ends = endsOf(row);
        int spot = row.isEmpty() ? book.get(0) : ends.get(ends.size() - 1);
        for (int r = 0; r < roads.size(); r++) {
            if (row.contains(r) || otherEnd(r, spot) < 0) continue;
            List<Integer> longer = new ArrayList<>(row);
            longer.add(r);
            if (!found.isEmpty() && sumOf(longer) > sumOf(found.get(0))) continue;
            if (trials == 60000) return false;
            trials++;
            if (passes(longer)) {
                if (!found.isEmpty() && sumOf(longer) < sumOf(found.get(0))) found.clear();
                found.add(longer);
            }
            if (!goOn(longer)) return false;
        }
        return true;
    }

    /** The ways of the least sum, by looking at all ways there are; null: too many of them. */
    List<List<Integer>> leastOfAll() {
        List<List<Integer>> ways = new ArrayList<>();
        List<List<Integer>> rows = new ArrayList<>();
        rows.add(new ArrayList<>());
        for (int at = 0; at < rows.size(); at++) {
            if (rows.size() > 3000) return null;
            List<Integer> row = rows.get(at);
            if (!row.isEmpty() && passes(row)) ways.add(row);
            List<Integer> ends = endsOf(row);
            int spot = row.isEmpty() ? book.get(0) : ends.get(ends.size() - 1);
            for (int r = 0; r < roads.size() && row.size() < 10; r++) {
                if (row.contains(r) || otherEnd(r, spot) < 0) continue;
                List<Integer> longer = new ArrayList<>(row);
                longer.add(r);
                rows.add(longer);
            }
        }
        int least = ways.stream().mapToInt(this::sumOf).min().orElse(0);
        ways.removeIf(row -> sumOf(row) != least);
        ways.sort(PlainRally::byNumber);
        return ways;
    }

    private static int byNumber(List<Integer> one, List<Integer> other) {
        for (int p = 0; p < Math.min(one.size(), other.size()); p++) {
            if (!one.get(p).equals(other.get(p))) return one.get(p) - other.get(p);
        }
        return one.size() - other.size();
    }

    boolean hasBook() {
        return !book.isEmpty();
    }

    int firstSpot() {
        return book.get(0);
    }

    int ways() {
        if (book.isEmpty()) return STATE;
        return search() ? found.size() : SPENT;
    }

    int lay() {
        if (book.isEmpty()) return STATE;
        if (!search()) return SPENT;
        if (found.isEmpty()) return NONE;
        way = found.get(0);
        speeds.clear();
        controls.clear();
        for (Car car : cars) {
            car.cameTo.clear();
            car.times.clear();
            car.claims.clear();
        }
        return way.size();
    }

    int laid(int i) {
        return i < 0 || i >= way.size() ? UNKNOWN : way.get(i);
    }

    long proof(int k, int lane, int i, int n) {
        faulted = 0;
        if (noSheet(k) || noLane(lane) || book.isEmpty()) return LOST;
        int f = cellsFault(rows[k], lane, i, n);
        if (f != 0) {
            faulted = f;
            return LOST;
        }
        List<Integer> row = new ArrayList<>();
        int spot = book.get(0);
        for (int r : rows[k].cells.subList(i, i + n)) {
            if (noRoad(r) || row.contains(r) || otherEnd(r, spot) < 0) return -1 - row.size();
            row.add(r);
            spot = otherEnd(r, spot);
        }
        return row.isEmpty() || row.size() > 10 || !passes(row) ? -100 : sumOf(row);
    }

    // speeds and controls

    private int end() {
        return sumOf(way);
    }

    int speed(int place, int v) {
        if (v < 1 || v > 3000) return OUTSIDE;
        if (way.isEmpty()) return STATE;
        if (place < 0 || place > end()) return OUTSIDE;
        if (speeds.size() == 8) return FULL;
        speeds.add(new Mark(place, v));
        return speeds.size();
    }

    private TreeMap<Integer, Integer> speedByPlace() {
        TreeMap<Integer, Integer> byPlace = new TreeMap<>();
        for (Mark mark : speeds) byPlace.put(mark.place(), mark.v());
        return byPlace;
    }

    long due(int place) {
        TreeMap<Integer, Integer> marks = speedByPlace();
        if (!marks.containsKey(0) || place < 0 || place > end()) return LOST;
        long sum = 0;
        for (Map.Entry<Integer, Integer> mark : marks.headMap(place, false).entrySet()) {
            Integer next = marks.higherKey(mark.getKey());
            int to = next == null || next > place ? place : next;
            sum += 600L * (to - mark.getKey()) / mark.getValue();
        }
        return sum;
    }

    int roadAt(int place) {
        if (way.isEmpty()) return STATE;
        if (place < 0 || place > end()) return OUTSIDE;
        List<Integer> under = new ArrayList<>();
        for (int r : way) {
            for (int m = 0; m < roads.get(r).length; m++) under.add(r);
        }
        return under.get(Math.min(place, under.size() - 1));
    }

    int control(int place) {
        if (way.isEmpty()) return STATE;
        if (place < 1 || place > end()) return OUTSIDE;
        for (Control control : controls) {
            if (control.place == place) return STATE;
        }
        if (controls.size() == 8) return FULL;
        Control control = new Control();
        control.place = place;
        controls.add(control);
        return controls.size() - 1;
    }

    private boolean noControl(int c) {
        return c < 0 || c >= controls.size();
    }

    int watch(int c, int a, int b, int x, int y) {
        if (noControl(c)) return UNKNOWN;
        for (int t : new int[] {a, b, x, y}) {
            if (t < 0 || t > 1000000) return OUTSIDE;
        }
        if (a >= b || x >= y) return OUTSIDE;
        controls.get(c).checks = new int[] {a, b, x, y};
        return 1;
    }

    long right(int c, int t) {
        if (noControl(c) || t < 0 || t > 1000000) return LOST;
        int[] w = controls.get(c).checks;
        if (w == null) return t;
        return w[0] + ((long) t - w[2]) * ((long) w[1] - w[0]) / ((long) w[3] - w[2]);
    }

    int strike(int c, boolean is) {
        if (noControl(c)) return UNKNOWN;
        boolean was = controls.get(c).struck;
        controls.get(c).struck = is;
        return was == is ? 0 : 1;
    }

    // cars

    int car(int start, int kind) {
        if (start < 0 || start > 500000 || kind < 0 || kind > 2) return OUTSIDE;
        if (cars.size() == 8) return FULL;
        Car car = new Car();
        car.start = start;
        car.kind = kind;
        cars.add(car);
        return cars.size() - 1;
    }

    private boolean noCar(int car) {
        return car < 0 || car >= cars.size();
    }

    int clock(int car, int c, int t) {
        if (noCar(car) || noControl(c)) return UNKNOWN;
        if (t < 0 || t > 1000000) return OUTSIDE;
        if (cars.get(car).times.containsKey(c)) return STATE;
        cars.get(car).times.put(c, t);
        cars.get(car).cameTo.add(c);
        return 1;
    }

    int allow(int car, int c, int a) {
        if (noCar(car) || noControl(c)) return UNKNOWN;
        if (a < 0 || a > 3000) return OUTSIDE;
        int was = cars.get(car).claims.getOrDefault(c, 0);
        cars.get(car).claims.put(c, a);
        return was;
    }

    private List<Integer> controlsByPlace() {
        List<Integer> order = new ArrayList<>();
        for (int c = 0; c < controls.size(); c++) order.add(c);
        order.sort((c, d) -> controls.get(c).place - controls.get(d).place);
        return order;
    }

    long error(int car, int c) {
        if (noCar(car) || noControl(c) || !cars.get(car).times.containsKey(c)) return LOST;
        long due = due(controls.get(c).place);
        if (due == LOST) return LOST;
        long error = right(c, cars.get(car).times.get(c)) - cars.get(car).start - due;
        long carried = 0;
        List<Integer> order = controlsByPlace();
        for (int d : order.subList(0, order.indexOf(c) + 1)) {
            carried += Math.min(600, cars.get(car).claims.getOrDefault(d, 0));
        }
        carried = Math.min(1500, carried);
        return error <= 0 ? error : error < carried ? 0 : error - carried;
    }

    private boolean outOfOrder(int car, int c) {
        List<Integer> cameTo = cars.get(car).cameTo;
        for (int d : cameTo.subList(0, Math.max(0, cameTo.indexOf(c)))) {
            if (controls.get(d).place > controls.get(c).place && !controls.get(d).struck) return true;
        }
        return false;
    }

    int points(int car, int c) {
        if (noCar(car) || noControl(c)) return UNKNOWN;
        if (due(0) == LOST) return STATE;
        if (controls.get(c).struck) return 0;
        if (!cars.get(car).times.containsKey(c)) return 300;
        if (outOfOrder(car, c)) return 100;
        long error = error(car, c);
        long seconds = Math.abs(error) / 10 + (error % 10 == 0 ? 0 : 1);
        long points = error < 0 ? 2 * seconds : seconds;
        if (points > 300) points = 300;
        if (cars.get(car).kind >= 1) points = points / 2;
        if (cars.get(car).kind == 2 && points > 50) points = 50;
        return (int) points;
    }

    private int total(int car) {
        int sum = 0;
        for (int c = 0; c < controls.size(); c++) sum += points(car, c);
        return sum;
    }

    private int compare(int car, int other) {
        if (total(car) != total(other)) return total(car) - total(other);
        for (int c : controlsByPlace()) {
            if (points(car, c) != points(other, c)) return points(car, c) - points(other, c);
        }
        return car - other;
    }

    int result(int car, int what) {
        if (noCar(car)) return UNKNOWN;
        if (what < 0 || what > 3) return OUTSIDE;
        if (due(0) == LOST) return STATE;
        if (what == 0) return total(car);
        int count = what == 1 ? 1 : 0;
        for (int other = 0; other < cars.size() && what == 1; other++) {
            if (compare(other, car) < 0) count++;
        }
        for (int c = 0; c < controls.size(); c++) {
            boolean clocked = cars.get(car).times.containsKey(c);
            if (controls.get(c).struck) continue;
            if (what == 2 && !clocked) count++;
            if (what == 3 && clocked && outOfOrder(car, c)) count++;
        }
        return count;
    }

    // sheets

    int sheet(int k, int lane, int n) {
        faulted = 0;
        if (noSheet(k)) return UNKNOWN;
        if (noLane(lane) || n > 32) return OUTSIDE;
        if (n < 0) return fault(4);
        rows[k] = new Row();
        rows[k].lane = lane;
        for (int i = 0; i < n; i++) rows[k].cells.add(0);
        return 1;
    }

    int lose(int k) {
        if (noSheet(k)) return UNKNOWN;
        boolean had = rows[k] != null;
        rows[k] = null;
        return had ? 1 : 0;
    }

    int put(int k, int i, int v) {
        faulted = 0;
        if (noSheet(k)) return UNKNOWN;
        if (rows[k] == null) return fault(1);
        if (i < 0 || i >= rows[k].cells.size()) return fault(3);
        long least = LEAST[rows[k].lane];
        rows[k].cells.set(i, (int) (Math.floorMod(v - least, -2 * least) + least));
        return 1;
    }

    long cell(int k, int i, int lane) {
        faulted = 0;
        if (noSheet(k) || noLane(lane)) return LOST;
        int f = cellsFault(rows[k], lane, i, 1);
        faulted = f;
        return f == 0 ? rows[k].cells.get(i) : LOST;
    }

    int copy(int k, int i, int other, int j, int n) {
        faulted = 0;
        if (noSheet(k) || noSheet(other)) return UNKNOWN;
        if (rows[k] == null || rows[other] == null) return fault(1);
        if (rows[k].lane != rows[other].lane) return fault(2);
        List<Integer> from = rows[k].cells;
        List<Integer> to = rows[other].cells;
        if (i < 0 || j < 0 || n < 0) return fault(3);
        if ((long) i + n > from.size() || (long) j + n > to.size()) return fault(3);
        List<Integer> cells = new ArrayList<>(from.subList(i, i + n));
        for (int p = 0; p < n; p++) to.set(j + p, cells.get(p));
        return n;
    }

    int tell(int r) {
        if (noRoad(r)) return UNKNOWN;
        Road road = roads.get(r);
        if (road.kind == 1) leave(2);
        if (road.kind == 2) leave(3);
        leave(1);
        if (road.kind == 1) return road.length + 1;
        return road.wet ? -road.length : road.length;
    }

    int greet(int car) {
        if (noCar(car)) return UNKNOWN;
        int kind = cars.get(car).kind;
        if (kind == 0) {
            leave(4);
            return 10 * car;
        }
        if (kind == 2) leave(6);
        leave(5);
        return kind == 2 ? 8 : 7;
    }

    private void leave(int number) {
        traced = traced * 31 + number;
    }

    int as(int car, int kind) {
        faulted = 0;
        if (noCar(car)) return UNKNOWN;
        if (kind < 0 || kind > 2) return OUTSIDE;
        return cars.get(car).kind >= kind ? 1 : fault(2);
    }

    int trace() {
        return traced;
    }

    int fault() {
        return faulted;
    }

    int told(int what) {
        int[] counts = {roads.size(), way.size(), end(), speeds.size(), controls.size(),
            cars.size(), book.size(), trials};
        return what < 0 || what > 7 ? OUTSIDE : counts[what];
    }
}
