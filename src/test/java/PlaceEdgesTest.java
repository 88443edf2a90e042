/** Edges that the document's Terms name of an object, PLACES, POINTS, THE KERNEL and refusals. */
public final class PlaceEdgesTest {
    private static final long BAD = -2, FULL = -4, BAD_NUMBER = -2000, NOT = -9000000000000000000L;
    private static final long LEAST = Run.LEAST, MOST = Run.MOST;
    private static final Sentences TESTS = new Sentences();

    private static final String PLACES = "1 PLACES have whole x, y, 0 .. | 63.";
    private static final String NUMBERS = "POINTS 0 .. 39 have a PLACE";
    private static final String WEIGHTS = "a WEIGHT (-1000 .. 1000)";
    private static final String PACES = "a PACE (two numbers -32 .. 31; 0 at first)";
    private static final String REFUSED = "Refused, changing nothing, the first of: BAD -2 a number "
        + "is not as told (a POINT, a BOX that is not there, too); FULL -4.";

    public static void main(String[] args) throws Exception {
        TESTS.runAll(PlaceEdgesTest.class, args);
    }

    private static Run fullRun(String sentence) {
        Run run = TESTS.says(sentence);
        for (int p = 0; p < 40; p++) {
            run.due(p, "point", p, 63 - p, p + 1);
        }
        return run;
    }

    // ---- An object ----

    static void anObjectHas512Calls() {
        Run run = fullRun("An object is used for at most 512 calls after it has been made;");
        run.due(0, "kernel", 1, 1, 9);
        long before = run.call("digest");
        for (int n = 0; n < 234; n++) {
            run.due(8, "step", 8);
            run.due(0, "step", -8);
        }
        run.due(40, "count", 0);
        run.holds("511 calls were made", run.callsSoFar() == 511);
        run.due(before, "digest");
    }

    static void laterCallsAreFree() {
        Run run = TESTS.says("what later calls answer is free.");
        FarSums sums = new FarSums();
        for (int n = 0; n < 520; n++) {
            sums.point(n % 64, n / 8 % 64, n);
            sums.step(n % 8 + 1);
        }
        run.holds("later calls have ended", true);
    }

    // ---- PLACES ----

    /** The corners are PLACES, what lies just beyond each edge is not. */
    private static void placeEdges(Run run, long want, long refusal, String method, int xIndex,
            long... numbers) {
        long[] tried = numbers.clone();
        for (int corner = 0; corner < 4; corner++) {
            tried[xIndex] = corner % 2 * 63;
            tried[xIndex + 1] = corner / 2 * 63;
            run.due(want, method, tried);
        }
        run.refusedOutside(0, 63, refusal, xIndex, method, tried);
        run.refusedOutside(0, 63, refusal, xIndex + 1, method, tried);
    }

    private static Run onePoint(String sentence) {
        Run run = TESTS.says(sentence);
        run.due(0, "point", 20, 30, 5);
        return run;
    }

    static void placesOfPoint() {
        Run run = TESTS.says(PLACES);
        int p = 0;
        for (int[] corner : new int[][] {{0, 0}, {63, 0}, {0, 63}, {63, 63}}) {
            run.due(p, "point", corner[0], corner[1], 1);
            run.due(corner[0], "at", p, 0);
            run.due(corner[1], "at", p, 1);
            p++;
        }
        run.refusedOutside(0, 63, BAD, 0, "point", 0, 0, 1);
        run.refusedOutside(0, 63, BAD, 1, "point", 0, 0, 1);
    }

    static void placesOfMove() {
        Run run = onePoint(PLACES);
        placeEdges(run, 1, BAD, "move", 1, 0, 0, 0);
        run.due(63, "at", 0, 0);
        run.due(63, "at", 0, 1);
        run.due(1, "move", 0, 63, 0);
        run.due(63, "at", 0, 0);
        run.due(0, "at", 0, 1);
    }

    static void placesOfSum() {
        placeEdges(onePoint(PLACES), 80, NOT, "sum", 0, 0, 0);
    }

    static void placesOfAcross() {
        placeEdges(onePoint(PLACES), 80, NOT, "across", 0, 0, 0, 0, 1, 0);
    }

    static void placesOfOrder() {
        placeEdges(onePoint(PLACES), 0, BAD, "order", 0, 0, 0, 1, 0);
    }

    static void placesOfWay() {
        placeEdges(onePoint(PLACES), 0, BAD, "way", 0, 0, 0, 1, 0, 1);
    }

    static void placesOfLeaf() {
        placeEdges(onePoint(PLACES), 0, BAD, "leaf", 0, 0, 0);
    }

    static void placesOfNearest() {
        placeEdges(onePoint(PLACES), 0, BAD, "nearest", 0, 0, 0, 0);
    }

    // ---- POINTS ----

    static void numbersOfTake() {
        Run run = fullRun(NUMBERS);
        run.refusedOutside(0, 39, BAD, 0, "take", 0);
        run.due(39, "take", 39);
        run.due(38, "take", 0);
    }

    static void numbersOfMove() {
        Run run = fullRun(NUMBERS);
        run.refusedOutside(0, 39, BAD, 0, "move", 0, 5, 6);
        for (int p : new int[] {0, 39}) {
            run.due(1, "move", p, 5, 6);
            run.due(5, "at", p, 0);
            run.due(6, "at", p, 1);
        }
    }

    static void numbersOfWeigh() {
        Run run = fullRun(NUMBERS);
        run.refusedOutside(0, 39, BAD_NUMBER, 0, "weigh", 0, 7);
        run.due(1, "weigh", 0, 7);
        run.due(40, "weigh", 39, 7);
    }

    static void numbersOfPace() {
        Run run = fullRun(NUMBERS);
        run.refusedOutside(0, 39, BAD, 0, "pace", 0, 5, 6);
        for (int p : new int[] {0, 39}) {
            run.due(1, "pace", p, 5, 6);
            run.due(5, "at", p, 3);
            run.due(6, "at", p, 4);
        }
    }

    static void numbersOfAt() {
        Run run = fullRun(NUMBERS);
        run.refusedOutside(0, 39, BAD_NUMBER, 0, "at", 0, 2);
        run.due(1, "at", 0, 2);
        run.due(40, "at", 39, 2);
    }

    static void weightsOfPoint() {
        Run run = TESTS.says(WEIGHTS);
        run.refusedOutside(-1000, 1000, BAD, 2, "point", 1, 1, 0);
        run.due(0, "point", 1, 1, -1000);
        run.due(1, "point", 1, 1, 1000);
        run.due(-1000, "at", 0, 2);
        run.due(1000, "at", 1, 2);
    }

    static void weightsOfWeigh() {
        Run run = onePoint(WEIGHTS);
        run.refusedOutside(-1000, 1000, BAD_NUMBER, 1, "weigh", 0, 0);
        run.due(5, "weigh", 0, -1000);
        run.due(-1000, "weigh", 0, 1000);
        run.due(1000, "weigh", 0, 0);
        run.due(0, "at", 0, 2);
    }

    static void pacesOfPace() {
        Run run = onePoint(PACES);
        run.due(1, "pace", 0, -32, 31);
        run.due(-32, "at", 0, 3);
        run.due(31, "at", 0, 4);
        run.due(1, "pace", 0, 31, -32);
        run.due(31, "at", 0, 3);
        run.due(-32, "at", 0, 4);
        run.refusedOutside(-32, 31, BAD, 1, "pace", 0, 0, 0);
        run.refusedOutside(-32, 31, BAD, 2, "pace", 0, 0, 0);
    }

    static void pacesAreNothingAtFirst() {
        Run run = onePoint(PACES);
        run.due(0, "at", 0, 3);
        run.due(0, "at", 0, 4);
        run.due(1, "pace", 0, -7, 8);
        run.due(0, "take", 0);
        run.due(0, "point", 1, 1, 1);
        run.due(0, "at", 0, 3);
        run.due(0, "at", 0, 4);
    }

    // ---- THE KERNEL ----

    static void kernelNumbers() {
        Run run = TESTS.says("THE KERNEL has a number C(a, b) (-9 .. 9;");
        run.due(0, "kernel", 2, 1, -9);
        run.due(-9, "kernel", 2, 1, 9);
        run.refusedOutside(-9, 9, BAD_NUMBER, 2, "kernel", 2, 1, 0);
        run.due(9, "kernel", 2, 1, 0);
    }

    static void kernelAtFirst() {
        Run run = TESTS.says("C(0, 0) is 1 at first, all others 0)");
        for (int a = 0; a <= 4; a++) {
            for (int b = 0; b <= 4 - a; b++) {
                run.due(a == 0 && b == 0 ? 1 : 0, "kernel", a, b, 5);
            }
        }
    }

    static void kernelPowers() {
        Run run = TESTS.says("for each a, b, none below 0, a + b no more than 4.");
        run.due(1, "kernel", 0, 0, 0);
        for (int a = 0; a <= 4; a++) {
            for (int b = 0; b <= 4 - a; b++) {
                run.due(0, "kernel", a, b, 2 * a - b);
            }
            run.refused(BAD_NUMBER, "kernel", a, 5 - a, 0);
        }
        run.refused(BAD_NUMBER, "kernel", 5, 0, 0);
        for (int a = 0; a <= 4; a++) {
            for (int b = 0; b <= 4 - a; b++) {
                run.due(2 * a - b, "kernel", a, b, 0);
            }
        }
    }

    static void kernelPowersBelowNothing() {
        Run run = TESTS.says("for each a, b, none below 0, a + b no more than 4.");
        run.refusedOutside(0, 4, BAD_NUMBER, 0, "kernel", 0, 0, 0);
        run.refusedOutside(0, 4, BAD_NUMBER, 1, "kernel", 0, 0, 0);
        // Here a + b itself is no more than 4, or wraps around to where it is.
        long[][] wrong = {{5, -1}, {-1, 5}, {1, -1}, {-1, 1}, {MOST, LEAST}, {LEAST, MOST},
            {MOST, MOST}, {LEAST, LEAST}, {MOST, 1}, {4, MOST}};
        for (long[] powers : wrong) {
            run.refused(BAD_NUMBER, "kernel", powers[0], powers[1], 0);
        }
    }

    // ---- THE PULL and THE SUM ----

    static void toTheNothingth() {
        Run run = TESTS.says("(x - p) to the a-th times (y - q) to the b-th (to the 0-th: 1).");
        run.due(0, "point", 20, 30, 5);
        run.due(80, "sum", 20, 30);
        run.due(1, "kernel", 0, 0, 0);
        run.due(0, "kernel", 1, 0, 1);
        run.due(0, "sum", 20, 30);
        run.due(80, "sum", 21, 30);
        run.due(-80, "sum", 19, 30);
        run.due(1, "kernel", 1, 0, 0);
        run.due(0, "kernel", 0, 1, 1);
        run.due(0, "sum", 20, 30);
        run.due(80, "sum", 20, 31);
        run.due(-80, "sum", 20, 29);
    }

    static void sumOfNoPoints() {
        Run run = TESTS.says("THE SUM at x, y: THE PULLS of all POINTS.");
        run.due(0, "sum", 0, 0);
        run.due(0, "point", 0, 0, 0);
        run.due(0, "sum", 0, 0);
        run.due(0, "weigh", 0, -1);
        run.due(-16, "sum", 0, 0);
        run.due(0, "take", 0);
        run.due(0, "sum", 0, 0);
    }

    /** The greatest sum there is, far beyond an int. */
    static void sumOfAllPoints() {
        Run run = TESTS.says("THE SUM at x, y: THE PULLS of all POINTS.");
        for (int p = 0; p < 40; p++) {
            run.due(p, "point", 0, 0, 1000);
        }
        for (int a = 0; a <= 4; a++) {
            for (int b = 0; b <= 4 - a; b++) {
                run.call("kernel", a, b, 9);
            }
        }
        long powers = 1 + 2 * 63 + 3 * 3969 + 4 * 250047 + 5 * 15752961;
        run.due(16L * 40000 * 9 * powers, "sum", 63, 63);
        run.due(39, "take", 39);
        run.due(16L * 39000 * 9 * powers, "sum", 63, 63);
        run.due(16L * 39000 * 9, "sum", 0, 0);
    }

    // ---- Refusals ----

    static void badBeforeFull() {
        Run run = fullRun(REFUSED);
        run.refused(FULL, "point", 63, 63, 1000);
        run.refused(BAD, "point", 64, 63, 1000);
        run.refused(BAD, "point", 63, 64, 1000);
        run.refused(BAD, "point", 63, 63, 1001);
    }

    static void pointsThatAreNotThere() {
        Run run = TESTS.says(REFUSED);
        run.due(0, "point", 1, 1, 1);
        run.due(1, "point", 2, 2, 2);
        run.due(1, "take", 0);
        for (int p : new int[] {0, 2, 39}) {
            run.refused(BAD, "take", p);
            run.refused(BAD, "move", p, 3, 3);
            run.refused(BAD_NUMBER, "weigh", p, 3);
            run.refused(BAD, "pace", p, 3, 3);
            run.refused(BAD_NUMBER, "at", p, 0);
        }
        run.due(1, "move", 1, 3, 3);
        run.due(2, "weigh", 1, 3);
        run.due(1, "pace", 1, 3, 3);
        run.due(3, "at", 1, 0);
        run.due(0, "take", 1);
        run.refused(BAD, "take", 1);
    }

    static void boxesThatAreNotThere() {
        Run run = TESTS.says(REFUSED);
        run.call("capacity", 1);
        run.due(0, "point", 0, 0, 1);
        run.refused(BAD, "box", 1, 0, 0, 0);
        run.refused(NOT, "moment", 1, 0, 0, 0, 0);
        run.due(1, "point", 63, 63, 1);
        run.due(1, "box", 1, 0, 0, 0);
        run.due(1, "moment", 1, 0, 0, 0, 0);
        run.refused(BAD, "box", 2, 0, 0, 0);
        run.refused(NOT, "moment", 2, 0, 0, 0, 0);
    }

    /** Each call that changes something has one wrong number, the others would change it. */
    static void nothingIsChanged() {
        Run run = fullRun(REFUSED);
        run.call("pace", 0, 3, 4);
        run.call("step", 2);
        long[][] moves = {{0, 64, 1}, {0, 1, 64}, {40, 1, 1}};
        for (long[] wrong : moves) {
            run.refused(BAD, "move", wrong);
        }
        long[][] paces = {{0, 32, 1}, {0, 1, 32}, {40, 1, 1}};
        for (long[] wrong : paces) {
            run.refused(BAD, "pace", wrong);
        }
        run.refused(BAD_NUMBER, "weigh", 0, 1001);
        run.refused(BAD_NUMBER, "kernel", 0, 0, 10);
        run.refused(BAD_NUMBER, "kernel", 0, 5, 1);
        run.refused(BAD, "capacity", 9);
        run.refused(BAD, "step", 9);
        run.refused(BAD, "step", -9);
        run.refused(BAD, "take", 40);
        run.due(2, "count", 4);
        run.due(2, "capacity", 2);
        run.due(1, "kernel", 0, 0, 1);
    }
}
