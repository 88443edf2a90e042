import java.math.BigInteger;

/** Edges that the document's promises name themselves, one promise after the other. */
public final class PromiseEdgesTest {
    private static final long NONE = -1, BAD = -2, FULL = -4, BAD_NUMBER = -2000;
    private static final long NOT = -9000000000000000000L;
    private static final long LEAST = Run.LEAST, MOST = Run.MOST;
    private static final Sentences TESTS = new Sentences();

    private static final String COUNTS = "How many: 0 POINTS, 1 BOXES that are there, "
        + "2 of these SPLIT, 3 the greatest LEVEL of one, 4 STEPS from the beginning on, "
        + "5 BULK of all. BAD.";
    private static final String STEPS = "n STEPS (1 .. 8; below 0: BACK): "
        + "how many STEPS it is from the beginning on. BAD.";
    private static final String NEAREST = "The k-th POINT by how far it is from a PLACE, "
        + "of those as far by numbers. NONE: not so many. BAD: also k below 0.";
    private static final String WAY = "THE WAY's k-th: 0 the LEVEL of a BOX (NONE: a POINT), "
        + "1 its i, or the POINT, 2 its j (NONE). NONE: not so many. BAD: also k below 0.";
    private static final String DIGEST = "h = 151; then h = 31 h + v for each v: "
        + "count(0) to count(5); of POINTS number, at(.., 0) to (.., 4);";

    public static void main(String[] args) throws Exception {
        TESTS.runAll(PromiseEdgesTest.class, args);
    }

    private static Run fullRun(String sentence) {
        Run run = TESTS.says(sentence);
        for (int p = 0; p < 40; p++) {
            run.due(p, "point", p, p, p + 1);
        }
        return run;
    }

    /** Seen from 63, 63 there is one BOX of LEVEL 1, at 0, 0 with both POINTS; its END is 3472. */
    private static Run twoFar(String sentence) {
        Run run = TESTS.says(sentence);
        run.call("capacity", 1);
        run.call("kernel", 0, 0, 0);
        run.call("kernel", 1, 0, 1);
        run.due(0, "point", 0, 0, 10);
        run.due(1, "point", 1, 0, -4);
        return run;
    }

    // ---- 1 to 9: what changes POINTS, THE KERNEL and THE CAPACITY ----

    static void p01NoPoints() {
        Run run = TESTS.says("`FarSums()`: No POINTS.");
        run.dueInTurn(new long[] {0, 1, 0, 0, 0, 0}, "count");
        for (int p = 0; p < 40; p++) {
            run.due(BAD_NUMBER, "at", p, 0);
        }
        run.due(NONE, "nearest", 0, 0, 0);
        run.due(0, "sum", 0, 0);
        run.due(0, "point", 0, 0, 0);
    }

    static void p02LeastThatIsFree() {
        Run run = fullRun("A POINT: its number, the least that is free.");
        run.due(39, "take", 39);
        run.due(38, "take", 17);
        run.due(37, "take", 0);
        run.due(0, "point", 1, 1, 1);
        run.due(17, "point", 1, 1, 1);
        run.due(39, "point", 1, 1, 1);
    }

    static void p02Forty() {
        Run run = TESTS.says("BAD; FULL: 40.");
        for (int p = 0; p < 39; p++) {
            run.due(p, "point", p, p, p);
        }
        run.due(39, "point", 0, 0, 0);
        run.refused(FULL, "point", 0, 0, 0);
        run.due(39, "take", 20);
        run.due(20, "point", 0, 0, 0);
        run.refused(FULL, "point", 0, 0, 0);
        run.refused(BAD, "point", -1, 0, 0);
        run.due(40, "count", 0);
    }

    static void p03HowManyAreLeft() {
        Run run = fullRun("A POINT goes: how many are left. BAD.");
        for (int p = 39; p >= 1; p--) {
            run.due(p, "take", p);
        }
        run.refused(BAD, "take", 1);
        run.due(0, "take", 0);
        run.refused(BAD, "take", 0);
    }

    static void p04Move() {
        Run run = TESTS.says("A POINT comes to a PLACE: 1. BAD.");
        run.refused(BAD, "move", 0, 0, 0);
        run.due(0, "point", 63, 63, 9);
        run.due(1, "pace", 0, 3, -3);
        run.due(1, "move", 0, 0, 0);
        run.dueInTurn(new long[] {0, 0, 9, 3, -3}, "at", 0);
        run.due(1, "move", 0, 0, 0);
        run.refused(BAD, "move", 1, 0, 0);
        run.due(1, "point", 1, 1, 1);
        run.due(1, "move", 1, 0, 0);
        run.due(2, "box", 0, 0, 0, 0);
    }

    static void p05Weigh() {
        Run run = TESTS.says("Its WEIGHT: what it was. BAD: -2000.");
        run.refused(BAD_NUMBER, "weigh", 0, 0);
        run.due(0, "point", 0, 0, -2);
        run.due(-2, "weigh", 0, -1);
        run.due(-1, "weigh", 0, -1000);
        run.due(-1000, "weigh", 0, 1000);
        run.refused(BAD_NUMBER, "weigh", 0, -1001);
        run.refused(BAD_NUMBER, "weigh", 0, -2000);
        run.due(1000, "weigh", 0, 1000);
        run.refused(BAD_NUMBER, "weigh", 1, 0);
    }

    static void p06Pace() {
        Run run = TESTS.says("Its PACE: 1. BAD.");
        run.refused(BAD, "pace", 0, 0, 0);
        run.due(0, "point", 0, 0, 1);
        run.due(1, "pace", 0, -32, -32);
        run.due(1, "pace", 0, 31, 31);
        run.refused(BAD, "pace", 0, -33, 31);
        run.refused(BAD, "pace", 0, 31, 32);
        run.dueInTurn(new long[] {0, 0, 1, 31, 31}, "at", 0);
        run.refused(BAD, "pace", 1, 0, 0);
    }

    static void p07At() {
        Run run = TESTS.says("Of a POINT: 0 x, 1 y, 2 WEIGHT, 3, 4 PACE. BAD: -2000.");
        run.refused(BAD_NUMBER, "at", 0, 0);
        run.due(0, "point", 11, 22, -2);
        run.due(1, "pace", 0, -2, 5);
        run.dueInTurn(new long[] {11, 22, -2, -2, 5}, "at", 0);
        run.refusedOutside(0, 4, BAD_NUMBER, 1, "at", 0, 0);
        run.refused(BAD_NUMBER, "at", 1, 0);
    }

    static void p08Kernel() {
        Run run = TESTS.says("C(a, b): what it was. BAD: -2000.");
        run.due(1, "kernel", 0, 0, -2);
        run.due(-2, "kernel", 0, 0, -9);
        run.due(-9, "kernel", 0, 0, 9);
        run.refused(BAD_NUMBER, "kernel", 0, 0, 10);
        run.refused(BAD_NUMBER, "kernel", 0, 0, -10);
        run.due(9, "kernel", 0, 0, 9);
        run.due(0, "kernel", 4, 0, 1);
        run.refused(BAD_NUMBER, "kernel", 4, 1, 1);
    }

    static void p09Capacity() {
        Run run = TESTS.says("THE CAPACITY: what it was. BAD.");
        run.due(2, "capacity", 8);
        run.refused(BAD, "capacity", 9);
        run.due(8, "capacity", 1);
        run.refused(BAD, "capacity", 0);
        run.due(1, "capacity", 1);
    }

    // ---- 10 to 13: THE SUM, ACROSS, ORDERS, THE WAY ----

    static void p10Sum() {
        Run run = TESTS.says("THE SUM at a PLACE, one by one. BAD: NOT.");
        run.due(0, "point", 0, 0, -1);
        run.due(-16, "sum", 0, 0);
        run.due(-16, "sum", 63, 63);
        run.refused(NOT, "sum", 64, 63);
        run.refused(NOT, "sum", 63, 64);
        run.refused(NOT, "sum", -1, 0);
        run.refused(NOT, "sum", 0, -1);
    }

    static void p11Across() {
        Run run = twoFar("ACROSS: ABOUT (what = 0), THE END (1), THE COST (2). BAD: NOT.");
        run.dueInTurn(new long[] {8 * 95 * 6, 3472, 1}, "across", 63, 63, 0, 1);
        run.refusedOutside(0, 2, NOT, 4, "across", 63, 63, 0, 1, 0);
        run.refused(NOT, "across", 64, 63, 0, 1, 0);
        run.refused(NOT, "across", 63, 63, 5, 1, 1);
        run.refused(NOT, "across", 63, 63, 0, 5, 2);
    }

    /** Far by X alone, or by Y alone; X and Y are 95 and -31, or -31 and 95. */
    static void p11AcrossToASide() {
        Run run = twoFar("ACROSS: ABOUT (what = 0), THE END (1), THE COST (2). BAD: NOT.");
        run.due(0, "kernel", 0, 1, 3);
        run.dueInTurn(new long[] {8 * 6 * (95 - 93), 8 * 14 * (31 + 93), 1}, "across", 63, 0, 0, 1);
        run.dueInTurn(new long[] {8 * 6 * (-31 + 285), 8 * 14 * (31 + 93), 1}, "across", 0, 63, 0, 1);
        run.due(0, "kernel", 1, 1, 1);
        run.due(8 * 14 * 124 + 4 * 14 * (31 * 126 + 961), "across", 63, 0, 0, 1, 1);
        run.due(8 * 14 * 124 + 4 * 14 * (31 * 126 + 961), "across", 0, 63, 0, 1, 1);
    }

    static void p12NoMoreThanEToASide() {
        for (int[] place : new int[][] {{63, 0}, {0, 63}}) {
            Run run = twoFar("The least ORDER for which THE END is no more than e");
            run.call("kernel", 1, 0, 0);
            run.call("kernel", 1, 1, 1);
            long byNothing = 4 * 14 * (31 * 126 + 961);
            long byOne = 4 * 14 * 961;
            run.due(0, "order", place[0], place[1], 1, byNothing);
            run.due(1, "order", place[0], place[1], 1, byNothing - 1);
            run.due(1, "order", place[0], place[1], 1, byOne);
            run.due(2, "order", place[0], place[1], 1, byOne - 1);
        }
    }

    static void p12NoMoreThanE() {
        Run run = twoFar("The least ORDER for which THE END is no more than e (0 or more). BAD.");
        run.due(0, "order", 63, 63, 1, 3473);
        run.due(0, "order", 63, 63, 1, 3472);
        run.due(1, "order", 63, 63, 1, 3471);
        run.due(0, "order", 63, 63, 1, Long.MAX_VALUE);
    }

    static void p12NothingOrMore() {
        Run run = twoFar("The least ORDER for which THE END is no more than e (0 or more). BAD.");
        run.due(1, "order", 63, 63, 1, 0);
        run.refused(BAD, "order", 63, 63, 1, -1);
        run.refused(BAD, "order", 63, 63, 1, Long.MIN_VALUE);
        run.refused(BAD, "order", 64, 63, 1, 0);
        run.refused(BAD, "order", 63, 63, 5, 0);
    }

    /** Many ORDERS have an END of 0: from a + b on; without a BOX's TERM, all of them. */
    static void p12TheLeast() {
        long[] e = {0, 0, 0, 0, 0};
        for (int n = 0; n <= 4; n++) {
            Run run = twoFar("The least ORDER for which THE END is no more than e");
            run.call("kernel", 1, 0, 0);
            run.call("kernel", n, 0, 9);
            run.due(n, "order", 63, 63, 1, 0);
            run.due(0, "order", 0, 0, 1, 0);
            for (int o = 0; o <= n; o++) {
                e[o] = run.call("across", 63, 63, o, 1, 1);
                run.due(o, "order", 63, 63, 1, e[o]);
                run.holds("smaller ENDS", o == 0 || e[o] < e[o - 1]);
                if (e[o] > 0) {
                    run.due(o + 1, "order", 63, 63, 1, e[o] - 1);
                }
            }
        }
    }

    static void p13NotSoMany() {
        Run run = fullRun(WAY);
        run.call("capacity", 8);
        long parts = run.call("across", 20, 20, 0, 4, 2);
        run.holds("many parts", parts > 8 && parts <= 40);
        run.holds("the first", run.call("way", 20, 20, 4, 0, 1) != NONE);
        run.holds("the last", run.call("way", 20, 20, 4, parts - 1, 1) != NONE);
        for (int what = 0; what <= 2; what++) {
            run.due(NONE, "way", 20, 20, 4, parts, what);
            run.due(NONE, "way", 20, 20, 4, 39 + parts, what);
            run.due(NONE, "way", 20, 20, 4, MOST, what);
        }
    }

    static void p13KBelowNothing() {
        Run run = twoFar(WAY);
        run.dueInTurn(new long[] {1, 0, 0}, "way", 63, 63, 1, 0);
        for (int what = 0; what <= 2; what++) {
            run.refused(BAD, "way", 63, 63, 1, -1, what);
            run.refused(BAD, "way", 63, 63, 1, LEAST, what);
        }
        run.call("take", 0);
        run.call("take", 1);
        run.refused(BAD, "way", 63, 63, 1, -1, 0);
        run.due(NONE, "way", 63, 63, 1, 0, 0);
    }

    static void p13BoxesAndPoints() {
        Run run = twoFar(WAY);
        run.due(2, "point", 63, 63, 1);
        run.dueInTurn(new long[] {1, 0, 0}, "way", 63, 63, 1, 0);
        run.dueInTurn(new long[] {NONE, 2, NONE}, "way", 63, 63, 1, 1);
        run.refusedOutside(0, 2, BAD, 4, "way", 63, 63, 1, 0, 0);
        run.refusedOutside(0, 2, BAD, 4, "way", 63, 63, 1, 1, 0);
        // A number that is not as told comes before there being not so many.
        run.refusedOutside(0, 2, BAD, 4, "way", 63, 63, 1, 2, 0);
    }

    static void p13ByAnyOrder() {
        Run run = fullRun("(By any ORDER it is the same.)");
        long[] way = new long[40];
        for (int k = 0; k < 40; k++) {
            way[k] = run.call("way", 50, 9, 2, k, 1);
        }
        long parts = run.call("across", 50, 9, 0, 2, 2);
        for (int o = 0; o <= 4; o++) {
            run.due(parts, "across", 50, 9, o, 2, 2);
            run.call("across", 50, 9, o, 2, 0);
            for (int k = 0; k < 40; k++) {
                run.due(way[k], "way", 50, 9, 2, k, 1);
            }
        }
    }

    // ---- 14 to 17: BOXES, MOMENTS, leaves, the nearest ----

    static void p14Box() {
        Run run = twoFar("Of a BOX: 0 POINTS, 1 BULK, 2 whether it is SPLIT. BAD.");
        run.dueInTurn(new long[] {2, 14, 1}, "box", 0, 0, 0);
        run.dueInTurn(new long[] {2, 14, 0}, "box", 5, 0, 0);
        run.dueInTurn(new long[] {0, 0, 0}, "box", 5, 1, 1);
        run.refusedOutside(0, 2, BAD, 3, "box", 0, 0, 0, 0);
        run.refused(BAD, "box", 5, 2, 0, 0);
        run.refused(BAD, "box", 5, 0, 2, 1);
        run.refused(BAD, "box", 2, 3, 3, 2);
    }

    static void p15Moment() {
        Run run = twoFar("MOMENT (a, b) of a BOX. BAD: NOT.");
        run.due(6, "moment", 5, 0, 0, 0, 0);
        run.due(-14, "moment", 5, 0, 0, 1, 0);
        run.due(6, "moment", 5, 0, 0, 0, 4);
        run.due(0, "moment", 5, 1, 1, 0, 0);
        run.refused(NOT, "moment", 5, 0, 0, 1, 4);
        run.refused(NOT, "moment", 5, 0, 0, -1, 0);
        run.refused(NOT, "moment", 5, 2, 0, 0, 0);
        run.refused(NOT, "moment", 6, 0, 0, 0, 0);
    }

    /** A leaf's edges: LEVELS 5 to 1 end at 3, 7, 15, 31 and 63. */
    static void p16Leaf() {
        Run run = twoFar("The LEVEL of the BOX that is not SPLIT with a PLACE. BAD.");
        int[][] leaves = {{0, 5}, {3, 5}, {4, 4}, {7, 4}, {8, 3}, {15, 3}, {16, 2}, {31, 2},
            {32, 1}, {63, 1}};
        for (int[] leaf : leaves) {
            run.due(leaf[1], "leaf", leaf[0], 0);
            run.due(leaf[1], "leaf", 0, leaf[0]);
            run.due(leaf[1], "leaf", leaf[0], leaf[0]);
        }
        run.refused(BAD, "leaf", 64, 0);
        run.refused(BAD, "leaf", 0, 64);
        run.refused(BAD, "leaf", -1, 0);
        run.refused(BAD, "leaf", 0, -1);
        run.due(1, "take", 1);
        run.due(0, "leaf", 0, 0);
        run.due(0, "leaf", 63, 63);
    }

    static void p17ByHowFar() {
        Run run = TESTS.says(NEAREST);
        run.call("point", 40, 20, 1);
        run.call("point", 31, 10, 1);
        run.call("point", 10, 40, 1);
        run.call("point", 40, 11, 1);
        run.dueInTurn(new long[] {3, 1, 0, 2, NONE}, "nearest", 40, 10);
        run.dueInTurn(new long[] {2, 1, 0, 3, NONE}, "nearest", 10, 30);
        // 10 along x and 10 along y are farther than 14 along one, nearer than 15.
        run.call("move", 0, 30, 30);
        run.call("move", 1, 20, 34);
        run.call("move", 2, 35, 20);
        run.call("move", 3, 20, 4);
        run.dueInTurn(new long[] {1, 0, 2, 3, NONE}, "nearest", 20, 20);
    }

    static void p17AsFarByNumbers() {
        Run run = TESTS.says(NEAREST);
        int[][] places = {{5, 0}, {0, 5}, {3, 4}, {4, 3}, {0, 6}, {4, 2}};
        for (int[] place : places) {
            run.call("point", place[0], place[1], 0);
        }
        run.dueInTurn(new long[] {5, 0, 1, 2, 3, 4, NONE}, "nearest", 0, 0);
        run.due(5, "take", 0);
        run.due(0, "point", 0, 5, 0);
        run.dueInTurn(new long[] {5, 0, 1, 2, 3, 4, NONE}, "nearest", 0, 0);
    }

    static void p17NotSoMany() {
        Run run = TESTS.says(NEAREST);
        run.due(NONE, "nearest", 0, 0, 0);
        for (int p = 0; p < 40; p++) {
            run.call("point", 63, 63, 1);
        }
        run.due(0, "nearest", 0, 0, 0);
        run.due(39, "nearest", 0, 0, 39);
        run.due(NONE, "nearest", 0, 0, 40);
        run.due(NONE, "nearest", 0, 0, MOST);
        run.due(39, "take", 0);
        run.due(39, "nearest", 0, 0, 38);
        run.due(NONE, "nearest", 0, 0, 39);
    }

    static void p17KBelowNothing() {
        Run run = TESTS.says(NEAREST);
        run.refused(BAD, "nearest", 0, 0, -1);
        run.due(0, "point", 0, 0, 1);
        run.due(0, "nearest", 0, 0, 0);
        run.refused(BAD, "nearest", 0, 0, -1);
        run.refused(BAD, "nearest", 0, 0, LEAST);
        run.refused(BAD, "nearest", 64, 0, 1);
    }

    // ---- 18 to 20: STEPS, counts, the digest ----

    static void p18Steps() {
        Run run = TESTS.says(STEPS);
        run.due(1, "step", 1);
        run.due(9, "step", 8);
        run.refused(BAD, "step", 9);
        run.refused(BAD, "step", 0);
        run.refused(BAD, "step", MOST);
        run.due(9, "count", 4);
    }

    static void p18StepsBack() {
        Run run = TESTS.says(STEPS);
        run.due(8, "step", 8);
        run.due(16, "step", 8);
        run.due(15, "step", -1);
        run.due(7, "step", -8);
        run.refused(BAD, "step", -9);
        run.refused(BAD, "step", LEAST);
        run.due(0, "step", -7);
        run.due(0, "count", 4);
    }

    /** As many STEPS as are asked for are made, and not one more. */
    static void p18AsManyAsAskedFor() {
        for (int n = 1; n <= 8; n++) {
            Run run = TESTS.says(STEPS);
            run.due(0, "point", 0, 63, 0);
            run.due(1, "pace", 0, 1, -2);
            run.due(n, "step", n);
            run.due(n, "at", 0, 0);
            run.due(63 - 2 * n, "at", 0, 1);
            run.due(0, "step", -n);
            run.due(0, "at", 0, 0);
            run.due(63, "at", 0, 1);
        }
    }

    static void p19What() {
        Run run = TESTS.says(COUNTS);
        run.dueInTurn(new long[] {0, 1, 0, 0, 0, 0}, "count");
        run.refusedOutside(0, 5, BAD, 0, "count", 0);
    }

    /** All POINTS in one BOX of LEVEL 5, as heavy as can be. */
    static void p19Most() {
        Run run = TESTS.says(COUNTS);
        for (int p = 0; p < 40; p++) {
            run.call("point", 62 + p % 2, 62 + p / 2 % 2, p % 3 == 0 ? 1000 : -1000);
        }
        run.call("step", 8);
        run.call("step", -4);
        for (int p = 0; p < 40; p++) {
            run.call("move", p, 62 + p % 2, 62 + p / 2 % 2);
        }
        run.dueInTurn(new long[] {40, 21, 5, 5, 4, 40000}, "count");
    }

    /** The greatest LEVEL is that of a BOX that is there, be it empty. */
    static void p19GreatestLevel() {
        Run run = TESTS.says(COUNTS);
        run.due(2, "capacity", 1);
        run.due(0, "point", 0, 0, 0);
        run.due(0, "count", 3);
        run.due(1, "point", 63, 63, 0);
        int[] places = {32, 31, 16, 15, 8, 7, 4, 3, 2, 1};
        int[] levels = {1, 2, 2, 3, 3, 4, 4, 5, 5, 5};
        for (int n = 0; n < places.length; n++) {
            run.due(1, "move", 1, places[n], 0);
            run.due(levels[n], "count", 3);
            run.due(levels[n], "count", 2);
            run.due(1 + 4 * levels[n], "count", 1);
        }
        run.due(1, "take", 1);
        run.due(0, "count", 3);
        run.due(0, "count", 2);
        run.due(1, "count", 1);
    }

    private static long digestOf(long... all) {
        BigInteger h = BigInteger.valueOf(151);
        for (long v : all) {
            h = h.multiply(BigInteger.valueOf(31)).add(BigInteger.valueOf(v));
        }
        // What is beyond a long is left out, as in Java's own arithmetic.
        return h.longValue();
    }

    static void p20NoPoints() {
        Run run = TESTS.says(DIGEST);
        run.due(digestOf(0, 1, 0, 0, 0, 0,
            1, 0, 0, 0, 0, 0, 0, 0, 0, 0, 0, 0, 0, 0, 0,
            2, 0, 0, 0), "digest");
    }

    /** A number that is free between others, numbers below 0, and the last POINT there can be. */
    static void p20PointsThatAreThere() {
        Run run = TESTS.says(DIGEST);
        run.call("capacity", 8);
        for (int p = 0; p < 40; p++) {
            run.call("point", p, 63 - p, -p);
        }
        for (int p = 1; p < 39; p++) {
            run.call("take", p);
        }
        run.call("pace", 39, -32, 31);
        run.due(digestOf(2, 1, 0, 0, 0, 39,
            0, 0, 63, 0, 0, 0,
            39, 39, 24, -39, -32, 31,
            1, 0, 0, 0, 0, 0, 0, 0, 0, 0, 0, 0, 0, 0, 0,
            8,
            -39, -39 * 15, -39 * -15), "digest");
    }

    /** As many as THE CAPACITY: one BOX; one more: five, by j, then i. */
    static void p20BoxesThatAreThere() {
        Run run = TESTS.says("of BOXES that are there, by LEVEL, j, i, "
            + "MOMENTS (0, 0), (1, 0), (0, 1).");
        run.call("point", 0, 0, 1);
        run.call("point", 32, 0, 2);
        run.due(digestOf(2, 1, 0, 0, 0, 3,
            0, 0, 0, 1, 0, 0,
            1, 32, 0, 2, 0, 0,
            1, 0, 0, 0, 0, 0, 0, 0, 0, 0, 0, 0, 0, 0, 0,
            2,
            3, -63 + 2, -63 * 3), "digest");
        run.call("point", 0, 32, 4);
        run.due(digestOf(3, 5, 1, 1, 0, 7,
            0, 0, 0, 1, 0, 0,
            1, 32, 0, 2, 0, 0,
            2, 0, 32, 4, 0, 0,
            1, 0, 0, 0, 0, 0, 0, 0, 0, 0, 0, 0, 0, 0, 0,
            2,
            7, -63 + 2 - 63 * 4, -63 * 3 + 4,
            1, -31, -31,
            2, -31 * 2, -31 * 2,
            4, -31 * 4, -31 * 4,
            0, 0, 0), "digest");
    }

    /** Two POINTS, at 62, 3 and 63, 2, in one BOX of the last LEVEL. */
    static void p20TheLastLevel() {
        Run run = TESTS.says("of BOXES that are there, by LEVEL, j, i, "
            + "MOMENTS (0, 0), (1, 0), (0, 1).");
        run.call("capacity", 1);
        run.call("point", 62, 3, 5);
        run.call("point", 63, 2, -2);
        long[] all = new long[6 + 2 * 6 + 15 + 1 + 21 * 3];
        long[] start = {2, 21, 5, 5, 0, 7, 0, 62, 3, 5, 0, 0, 1, 63, 2, -2, 0, 0, 1};
        System.arraycopy(start, 0, all, 0, start.length);
        all[33] = 1;
        // The BOX of each LEVEL with both POINTS, and where it stands among its four.
        int[][] withBoth = {{0, 0, 0}, {1, 0, 1}, {3, 0, 1}, {7, 0, 1}, {15, 0, 1}, {31, 1, 3}};
        for (int level = 0; level <= 5; level++) {
            int s = 64 >> level;
            int middleX = 2 * withBoth[level][0] * s + s - 1;
            int middleY = 2 * withBoth[level][1] * s + s - 1;
            int index = 34 + 3 * (level == 0 ? 0 : 4 * level - 3 + withBoth[level][2]);
            all[index] = 3;
            all[index + 1] = 5 * (2 * 62 - middleX) - 2 * (2 * 63 - middleX);
            all[index + 2] = 5 * (2 * 3 - middleY) - 2 * (2 * 2 - middleY);
        }
        run.due(digestOf(all), "digest");
    }

    static void p20Factors() {
        Run run = TESTS.says("C(a, b) by a, then b; THE CAPACITY;");
        int c = -9;
        for (int a = 0; a <= 4; a++) {
            for (int b = 0; b <= 4 - a; b++) {
                run.call("kernel", a, b, c);
                c++;
            }
        }
        run.call("capacity", 1);
        run.call("step", 3);
        run.due(digestOf(0, 1, 0, 0, 3, 0,
            -9, -8, -7, -6, -5, -4, -3, -2, -1, 0, 1, 2, 3, 4, 5,
            1, 0, 0, 0), "digest");
    }
}
