/** Edges that the document's Terms name of STEPS and STEPS BACK. */
public final class StepEdgesTest {
    private static final Sentences TESTS = new Sentences();

    private static final String PUSH = "a POINT's PUSH is THE SUM at x + 1, y less that at x - 1, y, "
        + "shifted to the right by 12 bits (down), brought to -32 .. 31 by 64s; likewise with y.";
    private static final String PACE =
        "Its PACE becomes it and PUSH, brought to -32 .. 31 by 64s;";
    private static final String PLACE =
        "then its PLACE it and the PACE, brought to 0 .. 63 by 64s.";
    private static final String ANY = "(THE SUM is as told for any whole x, y.)";
    private static final String BACK = "A STEP BACK undoes a STEP.";
    private static final String AT_ONCE = "3 A STEP, of all POINTS at once:";

    public static void main(String[] args) throws Exception {
        TESTS.runAll(StepEdgesTest.class, args);
    }

    private static Run withKernel(String sentence, int a, int b, int c) {
        Run run = TESTS.says(sentence);
        run.call("kernel", 0, 0, 0);
        run.call("kernel", a, b, c);
        return run;
    }

    /** With C(1, 0) or C(0, 1) alone, a POINT pushes itself by 32 times c times its WEIGHT. */
    private static void pushes(int c, int weight, int push) {
        Run alongX = withKernel(PUSH, 1, 0, c);
        alongX.due(0, "point", 32, 32, weight);
        alongX.due(1, "step", 1);
        alongX.dueInTurn(new long[] {32 + push, 32, weight, push, 0}, "at", 0);
        Run alongY = withKernel(PUSH, 0, 1, c);
        alongY.due(0, "point", 32, 32, weight);
        alongY.due(1, "step", 1);
        alongY.dueInTurn(new long[] {32, 32 + push, weight, 0, push}, "at", 0);
    }

    static void pushesAreShiftedDown() {
        pushes(1, 0, 0);
        pushes(1, 127, 0);
        pushes(1, 128, 1);
        pushes(1, 255, 1);
        pushes(1, 256, 2);
        pushes(1, -1, -1);
        pushes(1, -128, -1);
        pushes(1, -129, -2);
        pushes(-1, 128, -1);
        pushes(-1, 129, -2);
    }

    static void pushesAreBroughtBack() {
        pushes(9, 455, 31);
        pushes(8, 512, -32);
        pushes(9, 1000, 6);
        pushes(-8, 512, -32);
        pushes(-6, 683, 31);
        pushes(-9, 1000, -7);
    }

    /** Many times 64 beyond: 360000 by 128 is 2812.5, and 2812 is 60 more than 43 times 64. */
    static void pushesAreBroughtBackFromFar() {
        for (int sign = -1; sign <= 1; sign += 2) {
            Run run = withKernel(PUSH, 1, 0, 9);
            for (int p = 0; p < 40; p++) {
                run.due(p, "point", p, 32, 1000 * sign);
            }
            run.due(1, "step", 1);
            run.due(sign > 0 ? -4 : 3, "at", 0, 3);
            run.due(sign > 0 ? -4 : 3, "at", 39, 3);
            run.due(sign > 0 ? 60 : 3, "at", 0, 0);
        }
    }

    /** 16 times 39000 times 9 times (64 to the 4-th less 62 to it) is 2743394062.5 by 12 bits. */
    static void pushesBeyondAnInt() {
        Run run = withKernel(PUSH, 4, 0, 9);
        run.due(0, "point", 63, 0, 1000);
        for (int p = 1; p < 40; p++) {
            run.due(p, "point", 0, 0, 1000);
        }
        run.due(1, "step", 1);
        run.due(14, "at", 0, 3);
        run.due(13, "at", 0, 0);
    }

    /** A POINT that pushes itself by 1, or by -1, with the PACE that it has. */
    private static void paces(int push, int before, int after, int place) {
        Run alongX = withKernel(PACE, 1, 0, 1);
        alongX.due(0, "point", 20, 20, 128 * push);
        alongX.due(1, "pace", 0, before, 0);
        alongX.due(1, "step", 1);
        alongX.dueInTurn(new long[] {place, 20, 128 * push, after, 0}, "at", 0);
        Run alongY = withKernel(PACE, 0, 1, 1);
        alongY.due(0, "point", 20, 20, 128 * push);
        alongY.due(1, "pace", 0, 0, before);
        alongY.due(1, "step", 1);
        alongY.dueInTurn(new long[] {20, place, 128 * push, 0, after}, "at", 0);
    }

    static void pacesAreBroughtBack() {
        paces(1, 30, 31, 51);
        paces(1, 31, -32, 52);
        paces(-1, -31, -32, 52);
        paces(-1, -32, 31, 51);
        paces(1, -32, -31, 53);
        paces(-1, 31, 30, 50);
    }

    private static void places(int before, int pace, int after) {
        Run alongX = withKernel(PLACE, 0, 0, 0);
        alongX.due(0, "point", before, 5, 1000);
        alongX.due(1, "pace", 0, pace, 0);
        alongX.due(1, "step", 1);
        alongX.dueInTurn(new long[] {after, 5, 1000, pace, 0}, "at", 0);
        Run alongY = withKernel(PLACE, 0, 0, 0);
        alongY.due(0, "point", 5, before, 1000);
        alongY.due(1, "pace", 0, 0, pace);
        alongY.due(1, "step", 1);
        alongY.dueInTurn(new long[] {5, after, 1000, 0, pace}, "at", 0);
    }

    static void placesAreBroughtBack() {
        places(62, 1, 63);
        places(63, 1, 0);
        places(1, -1, 0);
        places(0, -1, 63);
        places(63, 31, 30);
        places(32, 31, 63);
        places(33, 31, 0);
        places(0, -32, 32);
        places(32, -32, 0);
        places(31, -32, 63);
        places(63, 0, 63);
        places(0, 0, 0);
    }

    /** The BOXES go with a POINT that comes out at the other side. */
    static void boxesGoWithThePoints() {
        Run run = withKernel(PLACE, 0, 0, 0);
        run.call("capacity", 1);
        run.due(0, "point", 63, 0, 3);
        run.due(1, "point", 0, 0, 4);
        run.call("pace", 0, 1, -1);
        run.due(3, "box", 1, 1, 0, 1);
        run.due(1, "step", 1);
        run.due(0, "box", 1, 1, 0, 1);
        run.due(3, "box", 1, 0, 1, 1);
        run.due(0, "step", -1);
        run.due(3, "box", 1, 1, 0, 1);
        run.due(0, "box", 1, 0, 1, 1);
    }

    /** A POINT at an edge looks at -1 or 64, 10 and 11 from the heavy one; it is not held back. */
    private static void beyond(int edge, int heavy, int push, int place) {
        Run alongX = withKernel(ANY, 2, 0, 1);
        alongX.due(0, "point", edge, 7, 0);
        alongX.due(1, "point", heavy, 7, 100);
        alongX.due(1, "step", 1);
        alongX.dueInTurn(new long[] {place, 7, 0, push, 0}, "at", 0);
        alongX.dueInTurn(new long[] {heavy, 7, 100, 0, 0}, "at", 1);
        Run alongY = withKernel(ANY, 0, 2, 1);
        alongY.due(0, "point", 7, edge, 0);
        alongY.due(1, "point", 7, heavy, 100);
        alongY.due(1, "step", 1);
        alongY.dueInTurn(new long[] {7, place, 0, 0, push}, "at", 0);
        alongY.dueInTurn(new long[] {7, heavy, 100, 0, 0}, "at", 1);
    }

    /** 1600 times (81 - 121) is -15.625 by 12 bits. */
    static void sumsBeyondThePlaces() {
        beyond(0, 10, -16, 48);
        beyond(63, 53, 15, 14);
    }

    /** Each pushes the other from where it was, not from where it has come to. */
    static void allPointsAtOnce() {
        Run run = withKernel(AT_ONCE, 2, 0, -1);
        run.due(0, "point", 10, 0, 100);
        run.due(1, "point", 20, 0, 100);
        run.due(1, "step", 1);
        run.dueInTurn(new long[] {25, 0, 100, 15, 0}, "at", 0);
        run.dueInTurn(new long[] {4, 0, 100, -16, 0}, "at", 1);
    }

    static void noPointsAtOnce() {
        Run run = TESTS.says(AT_ONCE);
        run.due(1, "step", 1);
        run.due(9, "step", 8);
        run.due(0, "count", 0);
        run.due(1, "step", -8);
        run.due(0, "step", -1);
    }

    /** Places, paces and pushes all go around, and come back to the last. */
    static void backAroundAllEdges() {
        Run run = withKernel(BACK, 3, 1, 9);
        run.call("kernel", 1, 0, -9);
        run.call("kernel", 0, 2, 7);
        for (int p = 0; p < 40; p++) {
            run.due(p, "point", p % 2 * 63, p / 2 % 2 * 63, p % 3 * 1000 - 1000);
            run.due(1, "pace", p, p % 2 * 63 - 32, 31 - p / 2 % 2 * 63);
        }
        long[] digests = new long[9];
        for (int n = 0; n <= 8; n++) {
            digests[n] = run.call("digest");
            run.holds("another digest", n == 0 || digests[n] != digests[n - 1]);
            run.due(n + 1, "step", 1);
        }
        for (int n = 8; n >= 0; n--) {
            run.due(n, "step", -1);
            run.due(digests[n], "digest");
        }
        run.due(8, "step", 8);
        run.due(digests[8], "digest");
        run.due(0, "step", -8);
        run.due(digests[0], "digest");
    }
}
