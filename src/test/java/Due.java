/** What the tests share: answers that are due, and how a test ends. */
final class Due {
    private static int checks = 0;
    private static int wrong = 0;
    private static String where = "";

    private Due() {
    }

    static void due(String call, long got, long want) {
        checks++;
        if (got != want) {
            wrong++;
            System.out.println(where + call + " answered " + got + ", due is " + want);
        }
    }

    /** What is told ahead of each wrong answer from now on. */
    static void within(String place) {
        where = place;
    }

    static int checksMade() {
        return checks;
    }

    static void holds(String what, boolean is) {
        due(what, is ? 1 : 0, 1);
    }

    static void end() {
        System.out.println(checks + " checks, " + wrong + " wrong");
        if (wrong != 0 || checks == 0) {
            System.exit(1);
        }
    }

    /** Puts numbers into a new row of a sheet. */
    static void fill(RegularRally x, int k, int lane, int... cells) {
        due("sheet", x.sheet(k, lane, cells.length), 1);
        for (int i = 0; i < cells.length; i++) {
            due("put", x.put(k, i, cells[i]), 1);
        }
    }

    /** Makes a book of spots, by sheet 3. */
    static void book(RegularRally x, int... spots) {
        fill(x, 3, 2, spots);
        due("book", x.book(3, 2, 0, spots.length), spots.length);
    }

    /** A new object with one road of so many metres laid as its way. */
    static RegularRally withWayOf(int metres) {
        RegularRally x = new RegularRally();
        due("road", x.road(0, 1, metres, 0), 0);
        book(x, 0, 1);
        due("lay", x.lay(), 1);
        return x;
    }
}
