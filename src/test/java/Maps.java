/** Maps, as calls of a Run, that more than one test needs. */
final class Maps {
    /** 15 roads of one metre between spots 0 .. 4: a search for a spot out of reach is spent. */
    static final String SPENDING = """
        road(0, 1, 1, 0) 0; road(1, 2, 1, 0) 1; road(2, 3, 1, 0) 2; road(3, 4, 1, 0) 3
        road(4, 0, 1, 0) 4; road(0, 2, 1, 0) 5; road(1, 3, 1, 0) 6; road(2, 4, 1, 0) 7
        road(3, 0, 1, 0) 8; road(4, 1, 1, 0) 9; road(0, 3, 1, 0) 10; road(1, 4, 1, 0) 11
        road(2, 0, 1, 0) 12; road(3, 1, 1, 0) 13; road(4, 2, 1, 0) 14
        """;

    /** A map, found by trying many: a search from 9 for a spot out of reach has 59998 trials. */
    static final String NEARLY_SPENDING = """
        road(9, 0, 7, 1) 0; road(1, 0, 7, 0) 1; road(1, 0, 7, 0) 2; road(1, 3, 7, 0) 3
        road(1, 0, 7, 0) 4; road(1, 3, 7, 0) 5; road(2, 0, 7, 0) 6; road(2, 0, 7, 1) 7
        road(0, 1, 7, 1) 8; road(2, 1, 7, 0) 9; road(1, 0, 7, 1) 10; road(1, 0, 7, 0) 11
        """;

    /** Ten roads, from each spot to the next, the last one from 9 to 0. */
    static final String RING = """
        road(0, 1, 1000, 0) 0; road(1, 2, 1001, 0) 1; road(2, 3, 1002, 0) 2
        road(3, 4, 1003, 0) 3; road(4, 5, 1004, 0) 4; road(5, 6, 1005, 0) 5
        road(6, 7, 1006, 0) 6; road(7, 8, 1007, 0) 7; road(8, 9, 1008, 0) 8
        road(9, 0, 20000, 0) 9
        """;

    /** Twelve roads of 100 to 111 metres between 0 and 1, and all their numbers in sheet 0. */
    static final String TWELVE_SIDE_BY_SIDE = """
        road(0, 1, 100, 0) 0; road(0, 1, 101, 0) 1; road(0, 1, 102, 0) 2; road(0, 1, 103, 0) 3
        road(0, 1, 104, 0) 4; road(0, 1, 105, 0) 5; road(0, 1, 106, 0) 6; road(0, 1, 107, 0) 7
        road(0, 1, 108, 0) 8; road(0, 1, 109, 0) 9; road(0, 1, 110, 0) 10; road(0, 1, 111, 0) 11
        row(0, 0, 0, 1, 2, 3, 4, 5, 6, 7, 8, 9, 10, 11)
        """;

    private Maps() {
    }
}
