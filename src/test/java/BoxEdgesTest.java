/** Edges that the document's Terms name of BOXES, THE CAPACITY, MIDDLES, MOMENTS and BULK. */
public final class BoxEdgesTest {
    private static final long BAD = -2, NOT = -9000000000000000000L;
    private static final long LEAST = Run.LEAST, MOST = Run.MOST;
    private static final Sentences TESTS = new Sentences();

    private static final String LEVELS = "2 BOXES of LEVEL l, 0 .. 5,";
    private static final String NUMBERED = "numbered by i, j from 0 to 2 to the l-th less 1,";
    private static final String HAVE = "have the PLACES i S .. i S + S - 1, j S .. j S + S - 1, "
        + "with S 64 by 2 to the l-th.";
    private static final String SPLIT = "a BOX that is there, of a LEVEL below 5, with more POINTS "
        + "than THE CAPACITY (1 .. 8; 2 at first) is SPLIT:";
    private static final String FOUR = "the four BOXES of the next LEVEL with its PLACES are there.";
    private static final String OTHERS = "No others are.";
    private static final String MIDDLE =
        "The MIDDLE of a BOX (in halves): 2 i S + S - 1, 2 j S + S - 1.";
    private static final String MOMENT = "Its MOMENT (a, b), a + b no more than 4: "
        + "the sum over its POINTS of WEIGHT times (2 p - the MIDDLE's) to the a-th and "
        + "(2 q - the MIDDLE's) to the b-th.";
    private static final String BULK = "Its BULK: the sum of the sizes of WEIGHTS.";

    public static void main(String[] args) throws Exception {
        TESTS.runAll(BoxEdgesTest.class, args);
    }

    /** With two POINTS at a PLACE and THE CAPACITY 1, every BOX with the PLACE is there. */
    private static Run pair(String sentence, int x, int y) {
        Run run = TESTS.says(sentence);
        run.due(2, "capacity", 1);
        run.due(0, "point", x, y, 1);
        run.due(1, "point", x, y, 1);
        return run;
    }

    // ---- LEVELS, numbers, PLACES ----

    static void levelsOfBox() {
        Run run = pair(LEVELS, 0, 0);
        for (int level = 0; level <= 5; level++) {
            run.due(2, "box", level, 0, 0, 0);
        }
        run.refusedOutside(0, 5, BAD, 0, "box", 0, 0, 0, 0);
        run.refused(BAD, "box", 32, 0, 0, 0);
    }

    static void levelsOfMoment() {
        Run run = pair(LEVELS, 0, 0);
        for (int level = 0; level <= 5; level++) {
            run.due(2, "moment", level, 0, 0, 0, 0);
        }
        run.refusedOutside(0, 5, NOT, 0, "moment", 0, 0, 0, 0, 0);
        run.refused(NOT, "moment", 32, 0, 0, 0, 0);
    }

    static void numbersOfBox() {
        for (int level = 0; level <= 5; level++) {
            int last = (1 << level) - 1;
            for (int corner = 0; corner < 4; corner++) {
                Run run = pair(NUMBERED, corner % 2 * 63, corner / 2 * 63);
                int i = corner % 2 * last;
                int j = corner / 2 * last;
                run.due(2, "box", level, i, j, 0);
                run.refusedOutside(0, last, BAD, 1, "box", level, i, j, 0);
                run.refusedOutside(0, last, BAD, 2, "box", level, i, j, 0);
            }
        }
    }

    static void numbersOfMoment() {
        for (int level = 0; level <= 5; level++) {
            int last = (1 << level) - 1;
            for (int corner = 0; corner < 4; corner++) {
                Run run = pair(NUMBERED, corner % 2 * 63, corner / 2 * 63);
                int i = corner % 2 * last;
                int j = corner / 2 * last;
                run.due(2, "moment", level, i, j, 0, 0);
                run.refusedOutside(0, last, NOT, 1, "moment", level, i, j, 0, 0);
                run.refusedOutside(0, last, NOT, 2, "moment", level, i, j, 0, 0);
            }
        }
    }

    static void placesOfBoxes() {
        for (int level = 0; level <= 5; level++) {
            for (int i = 0; i < 1 << level; i++) {
                for (int j = 0; j < 1 << level; j++) {
                    placesOfBox(level, i, j);
                }
            }
        }
    }

    /** A third POINT goes to the PLACES at the BOX's edges, and to those just beyond them. */
    private static void placesOfBox(int level, int i, int j) {
        int s = 64 >> level;
        Run run = pair(HAVE, i * s, j * s);
        run.due(2, "point", i * s, j * s, 1);
        int[] along = {i * s - 1, i * s, i * s + s - 1, i * s + s};
        int[] down = {j * s - 1, j * s, j * s + s - 1, j * s + s};
        for (int n = 0; n < 4; n++) {
            for (int m = 0; m < 4; m++) {
                if (along[n] >= 0 && along[n] <= 63 && down[m] >= 0 && down[m] <= 63) {
                    boolean within = n % 3 != 0 && m % 3 != 0;
                    run.due(1, "move", 2, along[n], down[m]);
                    run.due(within ? 3 : 2, "box", level, i, j, 0);
                }
            }
        }
    }

    // ---- Which BOXES are there ----

    static void levelNothingIsThere() {
        Run run = TESTS.says("That of LEVEL 0 is there;");
        run.dueInTurn(new long[] {0, 0, 0}, "box", 0, 0, 0);
        run.due(1, "count", 1);
        run.due(0, "point", 9, 9, 3);
        run.dueInTurn(new long[] {1, 3, 0}, "box", 0, 0, 0);
        run.due(0, "take", 0);
        run.dueInTurn(new long[] {0, 0, 0}, "box", 0, 0, 0);
        run.due(1, "count", 1);
    }

    static void asManyAsTheCapacity() {
        for (int m = 1; m <= 8; m++) {
            Run run = TESTS.says(SPLIT);
            run.due(2, "capacity", m);
            for (int p = 0; p < m; p++) {
                run.due(p, "point", 9, 9, 1);
                run.due(0, "box", 0, 0, 0, 2);
            }
            run.due(m, "point", 9, 9, 0);
            run.due(1, "box", 0, 0, 0, 2);
            run.due(m, "take", 0);
            run.due(0, "box", 0, 0, 0, 2);
        }
    }

    static void capacityAtFirst() {
        Run run = TESTS.says("THE CAPACITY (1 .. 8; 2 at first)");
        run.due(0, "point", 9, 9, 1);
        run.due(1, "point", 9, 9, 1);
        run.due(0, "box", 0, 0, 0, 2);
        run.due(2, "point", 9, 9, 1);
        run.due(1, "box", 0, 0, 0, 2);
        run.due(2, "capacity", 3);
    }

    static void capacityNumbers() {
        Run run = TESTS.says("THE CAPACITY (1 .. 8; 2 at first)");
        run.refusedOutside(1, 8, BAD, 0, "capacity", 1);
        run.due(2, "capacity", 1);
        run.due(1, "capacity", 8);
        run.refusedOutside(1, 8, BAD, 0, "capacity", 1);
        run.due(8, "capacity", 2);
    }

    static void levelFourAndFive() {
        Run run = TESTS.says(SPLIT);
        run.due(2, "capacity", 1);
        for (int p = 0; p < 40; p++) {
            run.due(p, "point", 62, 1, 1);
        }
        run.dueInTurn(new long[] {40, 40, 1}, "box", 4, 15, 0);
        run.dueInTurn(new long[] {40, 40, 0}, "box", 5, 31, 0);
        run.refused(BAD, "box", 6, 62, 1, 0);
    }

    /** A change of THE CAPACITY alone makes BOXES come and go. */
    static void capacityChanges() {
        Run run = TESTS.says(SPLIT);
        run.call("point", 0, 0, 1);
        run.call("point", 63, 63, 1);
        run.due(0, "box", 0, 0, 0, 2);
        run.due(2, "capacity", 1);
        run.due(1, "box", 0, 0, 0, 2);
        run.due(1, "box", 1, 1, 1, 0);
        run.due(1, "capacity", 2);
        run.due(0, "box", 0, 0, 0, 2);
        run.refused(BAD, "box", 1, 1, 1, 0);
    }

    /** The four of a SPLIT BOX are there, empty ones too. */
    static void theFour() {
        int[][] within = {{0, 0}, {1, 0}, {0, 1}, {1, 1}};
        for (int level = 0; level <= 4; level++) {
            Run run = pair(FOUR, 0, 0);
            for (int[] one : within) {
                run.due(one[0] + one[1] == 0 ? 2 : 0, "box", level + 1, one[0], one[1], 0);
            }
            Run other = pair(FOUR, 63, 32);
            int i = (63 >> 6 - level) * 2;
            int j = (32 >> 6 - level) * 2;
            for (int[] one : within) {
                boolean full = one[0] == 1 && one[1] == (level == 0 ? 1 : 0);
                other.due(full ? 2 : 0, "box", level + 1, i + one[0], j + one[1], 0);
            }
        }
    }

    static void noOthersBesideTheFour() {
        Run run = pair(OTHERS, 8, 8);
        for (int level = 2; level <= 5; level++) {
            int s = 64 >> level;
            // The four of the BOX of the LEVEL before, and those just around them.
            int first = 8 / (2 * s) * 2;
            for (int n = -1; n <= 2; n++) {
                boolean there = n == 0 || n == 1;
                long points = there && first + n == 8 / s ? 2 : 0;
                run.due(there ? points : BAD, "box", level, first + n, 8 / s, 0);
                run.due(there ? points : BAD, "box", level, 8 / s, first + n, 0);
            }
        }
        run.due(21, "count", 1);
    }

    static void noOthersWithinOneThatIsNotSplit() {
        Run run = TESTS.says(OTHERS);
        run.call("point", 0, 0, 1);
        run.call("point", 1, 1, 1);
        for (int level = 1; level <= 5; level++) {
            run.refused(BAD, "box", level, 0, 0, 0);
            run.refused(NOT, "moment", level, 0, 0, 0, 0);
        }
        run.call("point", 63, 63, 1);
        run.due(2, "box", 1, 0, 0, 0);
        for (int level = 2; level <= 5; level++) {
            run.refused(BAD, "box", level, 0, 0, 0);
            run.refused(NOT, "moment", level, 0, 0, 0, 0);
        }
    }

    static void othersGoWithThePoints() {
        Run run = pair(OTHERS, 8, 8);
        run.due(2, "box", 5, 4, 4, 0);
        run.due(1, "move", 1, 10, 8);
        run.due(1, "box", 5, 4, 4, 0);
        run.due(1, "move", 1, 12, 8);
        run.refused(BAD, "box", 5, 4, 4, 0);
        run.due(1, "box", 4, 2, 2, 0);
        run.due(1, "move", 1, 8, 32);
        run.refused(BAD, "box", 2, 0, 0, 0);
        run.due(1, "box", 1, 0, 0, 0);
        run.due(1, "take", 1);
        run.refused(BAD, "box", 1, 0, 0, 0);
    }

    // ---- MIDDLES, MOMENTS, BULK ----

    /** A POINT at a BOX's edge is S - 1 halves from its MIDDLE. */
    static void middles() {
        for (int level = 0; level <= 5; level++) {
            int s = 64 >> level;
            for (int i = 0; i < 1 << level; i++) {
                int j = (1 << level) - 1 - i;
                Run run = pair(MIDDLE, i * s, j * s);
                run.due(-2 * (s - 1), "moment", level, i, j, 1, 0);
                run.due(-2 * (s - 1), "moment", level, i, j, 0, 1);
                run.call("move", 0, i * s + s - 1, j * s);
                run.call("move", 1, i * s + s - 1, j * s);
                run.due(2 * (s - 1), "moment", level, i, j, 1, 0);
                run.due(-2 * (s - 1), "moment", level, i, j, 0, 1);
                run.call("move", 0, i * s, j * s + s - 1);
                run.call("move", 1, i * s, j * s + s - 1);
                run.due(-2 * (s - 1), "moment", level, i, j, 1, 0);
                run.due(2 * (s - 1), "moment", level, i, j, 0, 1);
            }
        }
    }

    static void momentPowers() {
        Run run = TESTS.says(MOMENT);
        run.call("point", 0, 63, 1000);
        long[] powers = {1, 63, 3969, 250047, 15752961};
        for (int a = 0; a <= 4; a++) {
            for (int b = 0; b <= 4 - a; b++) {
                long sign = a % 2 == 0 ? 1 : -1;
                run.due(sign * 1000 * powers[a + b], "moment", 0, 0, 0, a, b);
            }
            run.refused(NOT, "moment", 0, 0, 0, a, 5 - a);
        }
        run.refusedOutside(0, 4, NOT, 3, "moment", 0, 0, 0, 0, 0);
        run.refusedOutside(0, 4, NOT, 4, "moment", 0, 0, 0, 0, 0);
        long[][] wrong = {{5, -1}, {-1, 5}, {1, -1}, {-1, 1}, {MOST, LEAST}, {LEAST, MOST},
            {MOST, MOST}, {LEAST, LEAST}, {MOST, 1}, {4, MOST}};
        for (long[] pair : wrong) {
            run.refused(NOT, "moment", 0, 0, 0, pair[0], pair[1]);
        }
    }

    /** 40 POINTS as heavy and as far from the MIDDLE as can be: far beyond an int. */
    static void momentOfAllPoints() {
        Run run = TESTS.says(MOMENT);
        run.due(0, "moment", 0, 0, 0, 4, 0);
        for (int p = 0; p < 40; p++) {
            run.call("point", 0, 63, -1000);
        }
        run.due(-40000L * 15752961, "moment", 0, 0, 0, 4, 0);
        run.due(40000L * 15752961, "moment", 0, 0, 0, 1, 3);
        run.due(-40000, "moment", 0, 0, 0, 0, 0);
    }

    static void momentOfItsPointsAlone() {
        Run run = TESTS.says(MOMENT);
        run.call("capacity", 1);
        run.call("point", 31, 31, 5);
        run.call("point", 32, 31, 7);
        run.due(5, "moment", 1, 0, 0, 0, 0);
        run.due(7, "moment", 1, 1, 0, 0, 0);
        run.due(0, "moment", 1, 0, 1, 0, 0);
        run.due(0, "moment", 1, 1, 1, 0, 0);
        run.due(12, "moment", 0, 0, 0, 0, 0);
    }

    static void bulk() {
        Run run = TESTS.says(BULK);
        run.due(0, "box", 0, 0, 0, 1);
        run.call("point", 0, 0, -5);
        run.due(5, "box", 0, 0, 0, 1);
        run.call("point", 0, 0, 5);
        run.due(10, "box", 0, 0, 0, 1);
        run.call("point", 0, 0, 0);
        run.due(10, "box", 5, 0, 0, 1);
        run.due(0, "box", 5, 1, 0, 1);
        for (int p = 3; p < 40; p++) {
            run.call("point", 0, 0, p % 2 == 0 ? 1000 : -1000);
        }
        run.due(37010, "box", 5, 0, 0, 1);
    }
}
