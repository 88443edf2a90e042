/** Edges that the document's Terms name of TERMS, ENDS, ACROSS and THE WAY. */
public final class AcrossEdgesTest {
    private static final long NONE = -1, BAD = -2, NOT = -9000000000000000000L;
    private static final Sentences TESTS = new Sentences();

    private static final String TERM = "THE TERM of a BOX by an ORDER o (0 .. 4): "
        + "the sum over a, b, and u to a, v to b, with u + v no more than o,";
    private static final String END = "Its END: the sum over those with u + v above o of sizes:";
    private static final String SIZES = "of sizes: of C(a, b), of X, of Y (to the same), "
        + "2 to the (4 - a - b)-th, the ways to choose, S - 1 to the (u + v)-th, and the BULK.";
    private static final String DISTANCE =
        "ACROSS to a PLACE by an ORDER and a DISTANCE t (1 .. 4), from the BOX of LEVEL 0 on:";
    private static final String EMPTY = "a BOX without POINTS gives nothing;";
    private static final String FAR =
        "one with X or Y of a size of 2 S t or more gives its TERM and END;";
    private static final String GOES_ON =
        "another one that is SPLIT goes on to its four, by j, then i;";
    private static final String PULLS =
        "another one gives THE PULLS of its POINTS, by numbers, without END.";
    private static final String COST = "THE COST how many TERMS and PULLS there are.";
    private static final String WAY =
        "THE WAY: BOXES with TERMS and POINTS with PULLS, in order.";

    public static void main(String[] args) throws Exception {
        TESTS.runAll(AcrossEdgesTest.class, args);
    }

    /** Two POINTS at a PLACE, THE CAPACITY 1, and one number of THE KERNEL that is not 0. */
    private static Run pair(String sentence, int x, int y, int a, int b, int c) {
        Run run = TESTS.says(sentence);
        run.call("capacity", 1);
        run.call("kernel", 0, 0, 0);
        run.call("kernel", a, b, c);
        run.due(0, "point", x, y, 3);
        run.due(1, "point", x, y, -1);
        return run;
    }

    // ---- ORDERS ----

    static void ordersOfAcross() {
        Run run = pair("THE TERM of a BOX by an ORDER o (0 .. 4):", 0, 0, 4, 0, 1);
        for (int what = 0; what <= 2; what++) {
            run.holds("ORDER 0", run.call("across", 63, 63, 0, 1, what) != NOT);
            run.holds("ORDER 4", run.call("across", 63, 63, 4, 1, what) != NOT);
            run.refusedOutside(0, 4, NOT, 2, "across", 63, 63, 0, 1, what);
        }
    }

    /**
     * Seen from 63, 63, the BOX of LEVEL 1 at 0, 0 has X and Y 95, and its POINTS are 31 from
     * the MIDDLE to the other side: the parts by u are those of (95 + 31) to the 4-th.
     */
    static void partsNoHigherThanTheOrder() {
        Run run = pair(TERM, 0, 0, 4, 0, 1);
        long[] parts = {81450625, 106314500, 52038150, 11320580, 923521};
        long all = 0;
        for (int o = 0; o <= 4; o++) {
            all += parts[o];
            run.due(2 * all, "across", 63, 63, o, 1, 0);
        }
        run.due(2 * all, "sum", 63, 63);
    }

    static void partsAboveTheOrder() {
        Run run = pair(END, 0, 0, 4, 0, 1);
        long[] parts = {81450625, 106314500, 52038150, 11320580, 923521};
        long all = 0;
        for (int o = 4; o >= 0; o--) {
            run.due(4 * all, "across", 63, 63, o, 1, 1);
            all += parts[o];
        }
    }

    /** X is 95 and Y 93: the parts by u + v are those of (95 + 31) and (93 + 31), each squared. */
    static void partsByBothPowers() {
        Run run = pair(TERM, 0, 0, 2, 2, 1);
        long[] parts = {78057225, 102980760, 50946454, 11201416, 923521};
        long all = 0;
        for (int o = 0; o <= 4; o++) {
            all += parts[o];
            run.due(2 * all, "across", 63, 62, o, 1, 0);
            run.due(4 * (244109376 - all), "across", 63, 62, o, 1, 1);
        }
        run.due(2L * 244109376, "sum", 63, 62);
    }

    /** The parts by u + v are those of (95 + 31) to the 3-rd and (93 + 31). */
    static void waysToChoose() {
        Run run = pair("times how many ways there are to choose u of a, v of b, times X to the "
            + "(a - u)-th, Y to the (b - v)-th, the MOMENT (u, v),", 0, 0, 3, 1, 1);
        long[] parts = {79735875, 104635850, 51490380, 11260998, 923521};
        long all = 0;
        for (int o = 0; o <= 4; o++) {
            all += parts[o];
            run.due(2 * all, "across", 63, 62, o, 1, 0);
            run.due(4 * (248046624 - all), "across", 63, 62, o, 1, 1);
        }
        run.due(2L * 248046624, "sum", 63, 62);
    }

    /** The POINTS are at the near edge: the parts by u are those of (95 - 31) to the 4-th. */
    static void oddPartsAreTakenAway() {
        Run run = pair("and -1 for odd u + v.", 31, 0, 4, 0, 1);
        long[] parts = {81450625, -106314500, 52038150, -11320580, 923521};
        long all = 0;
        for (int o = 0; o <= 4; o++) {
            all += parts[o];
            run.due(2 * all, "across", 63, 63, o, 1, 0);
        }
        run.due(2L * 16777216, "sum", 63, 63);
    }

    static void powersOfTwo() {
        long[] wholes = {16, 16 * 63, 16 * 3969, 16L * 250047, 16L * 15752961};
        for (int n = 0; n <= 4; n++) {
            for (int c : new int[] {-9, -1, 1, 9}) {
                Run alongX = pair("of C(a, b) times 2 to the (4 - a - b)-th,", 0, 0, n, 0, c);
                alongX.due(2 * c * wholes[n], "across", 63, 63, n, 1, 0);
                Run alongY = pair("of C(a, b) times 2 to the (4 - a - b)-th,", 0, 0, 0, n, c);
                alongY.due(2 * c * wholes[n], "across", 63, 63, n, 1, 0);
            }
        }
    }

    /** By an ORDER of no less than a + b nothing is above it. */
    static void noPartsAboveThePowers() {
        for (int n = 0; n <= 4; n++) {
            Run run = pair(END, 0, 0, n, 0, -9);
            if (n > 0) {
                run.holds("END by " + (n - 1), run.call("across", 63, 63, n - 1, 1, 1) > 0);
            }
            for (int o = n; o <= 4; o++) {
                run.due(0, "across", 63, 63, o, 1, 1);
            }
        }
    }

    /** C, X and Y below 0: what the TERM has a sign for, the END has the size of. */
    static void sizesOfWhatIsBelowNothing() {
        Run run = pair(SIZES, 63, 63, 3, 0, -5);
        // X is -95; by 2: 10 times 31 to the 3-rd; by 1: and 10 times 3 times 95 times 961.
        run.due(4 * 10 * 29791, "across", 0, 0, 2, 1, 1);
        run.due(4 * 10 * (29791 + 3 * 95 * 961), "across", 0, 0, 1, 1, 1);
        Run other = pair(SIZES, 63, 63, 0, 3, -5);
        other.due(4 * 10 * 29791, "across", 0, 0, 2, 1, 1);
        other.due(4 * 10 * (29791 + 3 * 95 * 961), "across", 0, 0, 1, 1, 1);
        Run both = pair(SIZES, 63, 63, 1, 1, -1);
        // X and Y are -95 and -93: 4 times (95 times 31, 93 times 31, and 31 squared).
        both.due(4 * 4 * (31 * (95 + 93) + 961), "across", 0, 1, 0, 1, 1);
        both.due(4 * 4 * 961, "across", 0, 1, 1, 1, 1);
    }

    /** S - 1 is 31, 15, 7, 3, 1 for LEVELS 1 to 5, seen from where each is just far enough. */
    static void sizesByLevel() {
        Run run = pair(SIZES, 0, 0, 1, 0, 1);
        int[][] from = {{48, 31}, {24, 15}, {12, 7}, {6, 3}, {3, 1}};
        for (int[] each : from) {
            run.due(4 * 8 * each[1], "across", each[0], 0, 0, 1, 1);
        }
    }

    /** All that is greatest at once: no sum or product on the way wraps around. */
    static void theGreatestEnd() {
        Run run = TESTS.says(SIZES);
        for (int a = 0; a <= 4; a++) {
            for (int b = 0; b <= 4 - a; b++) {
                run.call("kernel", a, b, a + b == 4 ? -9 : 0);
            }
        }
        for (int p = 0; p < 40; p++) {
            run.call("point", 0, 0, 1000);
        }
        // Of the five with a + b = 4, all parts together are 126 to the 4-th each.
        long whole = 9L * 40000 * 252047376 * 5;
        run.due(-whole, "sum", 63, 63);
        run.due(whole - 9L * 40000 * 81450625 * 5, "across", 63, 63, 0, 1, 1);
        run.due(-9L * 40000 * 81450625 * 5, "across", 63, 63, 0, 1, 0);
    }

    // ---- DISTANCES ----

    static void distancesOfAcross() {
        Run run = pair(DISTANCE, 0, 0, 1, 0, 1);
        for (int what = 0; what <= 2; what++) {
            run.holds("t 1", run.call("across", 63, 63, 0, 1, what) != NOT);
            run.holds("t 4", run.call("across", 63, 63, 0, 4, what) != NOT);
            run.refusedOutside(1, 4, NOT, 3, "across", 63, 63, 0, 1, what);
        }
    }

    static void distancesOfOrder() {
        Run run = pair(DISTANCE, 0, 0, 1, 0, 1);
        run.due(1, "order", 63, 63, 1, 0);
        run.due(1, "order", 63, 63, 4, 0);
        run.refusedOutside(1, 4, BAD, 2, "order", 63, 63, 1, 0);
    }

    static void distancesOfWay() {
        Run run = pair(DISTANCE, 0, 0, 1, 0, 1);
        run.due(1, "way", 63, 63, 1, 0, 0);
        run.due(3, "way", 63, 63, 4, 0, 0);
        run.refusedOutside(1, 4, BAD, 2, "way", 63, 63, 1, 0, 0);
    }

    /** The BOX of LEVEL 0 is far from no PLACE. */
    static void fromLevelNothingOn() {
        Run run = TESTS.says("from the BOX of LEVEL 0 on:");
        run.due(0, "point", 0, 0, 1);
        for (int t = 1; t <= 4; t++) {
            run.due(NONE, "way", 63, 63, t, 0, 0);
            run.due(0, "way", 63, 63, t, 0, 1);
            run.due(1, "across", 63, 63, 0, t, 2);
        }
    }

    // ---- What each BOX gives ----

    static void noPointsAtAll() {
        Run run = TESTS.says(EMPTY);
        for (int o = 0; o <= 4; o++) {
            run.dueInTurn(new long[] {0, 0, 0}, "across", 63, 63, o, 1);
        }
        run.dueInTurn(new long[] {NONE, NONE, NONE}, "way", 63, 63, 1, 0);
        run.due(0, "order", 63, 63, 1, 0);
    }

    /** Of the four BOXES of LEVEL 1 one alone has POINTS, far or near. */
    static void emptyBoxesOfASplitOne() {
        Run run = pair(EMPTY, 0, 0, 1, 0, 1);
        run.due(1, "across", 63, 63, 0, 1, 2);
        run.dueInTurn(new long[] {1, 0, 0}, "way", 63, 63, 1, 0);
        run.due(NONE, "way", 63, 63, 1, 1, 0);
        run.due(2, "across", 0, 0, 0, 1, 2);
        run.due(NONE, "way", 0, 0, 1, 2, 1);
    }

    /**
     * In each row t, then from how far on the BOXES of LEVELS 5, 4, .. in a corner are far. X and
     * Y are odd, so 2 S t itself is never met: one PLACE less gives 2 S t - 1, this 2 S t + 1.
     */
    private static final int[][] JUST_FAR = {
        {1, 3, 6, 12, 24, 48}, {2, 5, 10, 20, 40}, {3, 7, 14, 28, 56}, {4, 9, 18, 36}};

    private static void farFrom(String side, int corner, boolean byX) {
        for (int[] row : JUST_FAR) {
            Run run = pair(FAR, corner, corner, 1, 1, 1);
            for (int n = 1; n < row.length; n++) {
                int level = 6 - n;
                int inside = Math.abs(corner - row[n]);
                int outside = Math.abs(corner - (row[n] - 1));
                long one = corner == 0 ? 0 : (1 << level) - 1;
                run.dueInTurn(new long[] {level, one, one}, "way",
                    byX ? inside : corner, byX ? corner : inside, row[0], 0);
                run.due(level == 5 ? NONE : level + 1, "way",
                    byX ? outside : corner, byX ? corner : outside, row[0], 0, 0);
            }
            run.holds(side + " is near itself",
                run.call("way", corner, corner, row[0], 0, 0) == NONE);
        }
    }

    static void farByX() {
        farFrom("the left", 0, true);
    }

    static void farByY() {
        farFrom("the top", 0, false);
    }

    static void farByXBelowNothing() {
        farFrom("the right", 63, true);
    }

    static void farByYBelowNothing() {
        farFrom("the bottom", 63, false);
    }

    /** A far BOX gives its TERM, be it SPLIT or with a single POINT. */
    static void farBoxesGiveTerms() {
        Run run = TESTS.says(FAR);
        run.call("capacity", 1);
        run.call("point", 0, 0, 1);
        run.call("point", 63, 63, 1);
        run.dueInTurn(new long[] {1, 0, 0}, "way", 63, 63, 1, 0);
        run.dueInTurn(new long[] {NONE, 1, NONE}, "way", 63, 63, 1, 1);
        run.call("point", 0, 0, 1);
        run.due(1, "box", 1, 0, 0, 2);
        run.dueInTurn(new long[] {1, 0, 0}, "way", 63, 63, 1, 0);
        run.due(2, "across", 63, 63, 0, 1, 2);
    }

    /** From the midst, each of the four is near; their POINTS have numbers against the order. */
    static void byJThenI() {
        Run run = TESTS.says(GOES_ON);
        run.call("capacity", 1);
        run.call("point", 40, 40, 1);
        run.call("point", 20, 40, 1);
        run.call("point", 40, 20, 1);
        run.call("point", 20, 20, 1);
        long[] order = {3, 2, 1, 0};
        for (int k = 0; k < 4; k++) {
            run.due(order[k], "way", 31, 31, 4, k, 1);
        }
        run.due(NONE, "way", 31, 31, 4, 4, 1);
    }

    /** The same of every BOX of LEVELS 1 to 4, with a POINT at each of its corners. */
    static void byJThenIOfEveryBox() {
        for (int level = 1; level <= 4; level++) {
            for (int i = 0; i < 1 << level; i++) {
                for (int j = 0; j < 1 << level; j++) {
                    byJThenIOf(level, i, j);
                }
            }
        }
    }

    private static void byJThenIOf(int level, int i, int j) {
        int s = 64 >> level;
        Run run = TESTS.says(GOES_ON);
        run.call("capacity", 1);
        run.due(0, "point", i * s + s - 1, j * s + s - 1, 1);
        run.due(1, "point", i * s, j * s + s - 1, 1);
        run.due(2, "point", i * s + s - 1, j * s, 1);
        run.due(3, "point", i * s, j * s, 1);
        for (int k = 0; k < 4; k++) {
            run.dueInTurn(new long[] {NONE, 3 - k, NONE}, "way", i * s + s / 2, j * s + s / 2, 4, k);
        }
        run.due(NONE, "way", i * s + s / 2, j * s + s / 2, 4, 4, 1);
    }

    /** From 0, 0 the three other BOXES of LEVEL 1 are far: (1, 0), then (0, 1), then (1, 1). */
    static void termsByJThenI() {
        Run run = TESTS.says(GOES_ON);
        run.call("capacity", 1);
        run.call("point", 63, 63, 1);
        run.call("point", 0, 63, 1);
        run.call("point", 63, 0, 1);
        run.call("point", 0, 0, 1);
        run.dueInTurn(new long[] {NONE, 3, NONE}, "way", 0, 0, 1, 0);
        run.dueInTurn(new long[] {1, 1, 0}, "way", 0, 0, 1, 1);
        run.dueInTurn(new long[] {1, 0, 1}, "way", 0, 0, 1, 2);
        run.dueInTurn(new long[] {1, 1, 1}, "way", 0, 0, 1, 3);
        run.dueInTurn(new long[] {NONE, NONE, NONE}, "way", 0, 0, 1, 4);
    }

    /** All that is within the first of the four comes before the second. */
    static void theFirstOfTheFourIsEnded() {
        Run run = TESTS.says(GOES_ON);
        run.call("capacity", 1);
        run.call("point", 32, 0, 1);
        run.call("point", 31, 31, 1);
        run.call("point", 15, 31, 1);
        run.call("point", 31, 15, 1);
        long[] order = {3, 2, 1, 0};
        for (int k = 0; k < 4; k++) {
            run.dueInTurn(new long[] {NONE, order[k], NONE}, "way", 24, 16, 4, k);
        }
    }

    static void pullsByNumbers() {
        Run run = TESTS.says(PULLS);
        run.call("capacity", 8);
        for (int p = 0; p < 8; p++) {
            run.due(p, "point", 63 - 9 * p, 63 - 9 * p, p + 1);
        }
        for (int k = 0; k < 8; k++) {
            run.dueInTurn(new long[] {NONE, k, NONE}, "way", 0, 0, 1, k);
        }
        run.due(7, "take", 2);
        run.due(3, "way", 0, 0, 1, 2, 1);
        run.due(7, "across", 0, 0, 0, 1, 2);
    }

    static void pullsHaveNoEnd() {
        Run run = pair(PULLS, 0, 0, 4, 0, 9);
        long sum = run.call("sum", 2, 0);
        run.holds("there is a pull", sum == 2 * 16 * 9 * 16);
        run.due(sum, "across", 2, 0, 0, 1, 0);
        run.due(0, "across", 2, 0, 0, 1, 1);
        run.holds("just farther there is an END", run.call("across", 3, 0, 0, 1, 1) > 0);
        Run alongY = pair(PULLS, 0, 0, 0, 4, 9);
        alongY.due(sum, "across", 0, 2, 0, 1, 0);
        alongY.due(0, "across", 0, 2, 0, 1, 1);
        alongY.holds("just farther there is an END", alongY.call("across", 0, 3, 0, 1, 1) > 0);
    }

    /** LEVEL 5 is never SPLIT: forty POINTS in it are forty PULLS. */
    static void pullsOfTheLastLevel() {
        Run run = TESTS.says(PULLS);
        for (int p = 0; p < 40; p++) {
            run.call("point", 20 + p % 2, 20 + p / 2 % 2, 1);
        }
        run.due(40, "across", 20, 20, 0, 1, 2);
        run.due(39, "way", 20, 20, 1, 39, 1);
        run.due(NONE, "way", 20, 20, 1, 40, 1);
        run.due(1, "across", 63, 63, 0, 1, 2);
    }

    // ---- COST and WAY ----

    /** A TERM or PULL of 0 is one too. */
    static void costOfNothing() {
        Run run = pair(COST, 0, 0, 1, 0, 1);
        run.call("weigh", 0, 0);
        run.call("weigh", 1, 0);
        run.dueInTurn(new long[] {0, 0, 1}, "across", 63, 63, 0, 1);
        run.dueInTurn(new long[] {0, 0, 2}, "across", 0, 0, 0, 1);
        run.call("kernel", 1, 0, 0);
        run.dueInTurn(new long[] {0, 0, 2}, "across", 0, 0, 0, 1);
    }

    /** One TERM and one PULL: ABOUT has both, THE END the TERM's alone. */
    static void allTogether() {
        Run run = TESTS.says("ABOUT is all TERMS and PULLS together; THE END all ENDS;");
        run.call("capacity", 1);
        run.call("kernel", 1, 0, 1);
        run.call("point", 0, 0, 1);
        run.call("point", 60, 60, 2);
        // TERM 16 + 8 times 95; PULL 2 times 16 times (1 + 3); END 8 times 31.
        run.dueInTurn(new long[] {16 + 760 + 128, 248, 2}, "across", 63, 63, 0, 1);
        run.call("point", 0, 63, 3);
        // Another TERM: 3 times as much.
        run.dueInTurn(new long[] {4 * (16 + 760) + 128, 4 * 248, 3}, "across", 63, 31, 0, 1);
    }

    static void theWayHasAllAndNoMore() {
        Run run = pair(WAY, 0, 0, 1, 0, 1);
        run.due(2, "point", 63, 63, 1);
        run.dueInTurn(new long[] {1, 0, 0}, "way", 63, 63, 1, 0);
        run.dueInTurn(new long[] {NONE, 2, NONE}, "way", 63, 63, 1, 1);
        run.dueInTurn(new long[] {NONE, NONE, NONE}, "way", 63, 63, 1, 2);
    }
}
