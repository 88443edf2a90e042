/** Each promise by itself: what is ordinary, the edges that the document names, wrong numbers. */
public final class PromisesTest {
    private static final int LEAST = Integer.MIN_VALUE, MOST = Integer.MAX_VALUE;
    private static final Check CHECK = new Check();

    public static void main(String[] args) {
        promise1NewObject();
        promise2Point();
        promise3Take();
        promise4Move();
        promise5Weigh();
        promise6Pace();
        promise7At();
        promise8Kernel();
        promise9Capacity();
        promise10Sum();
        promise11Across();
        promise12Order();
        promise13Way();
        promises11To13Together();
        promise14Box();
        promise15Moment();
        promise16Leaf();
        promise17Nearest();
        promise18Step();
        promise18StepBack();
        promise19Count();
        promise20Digest();
        refusalsChangeNothing();
        CHECK.end();
    }

    private static void due(String call, long got, long want) {
        CHECK.due(call, got, want);
    }

    private static long digestOf(long... all) {
        long h = 151;
        for (long v : all) {
            h = 31 * h + v;
        }
        return h;
    }

    private static void fill(FarSums f, int many) {
        for (int p = 0; p < many; p++) {
            due("1: point " + p, f.point(p, 63 - p, p), p);
        }
    }

    private static void promise1NewObject() {
        FarSums f = new FarSums();
        int[] counts = {0, 1, 0, 0, 0, 0};
        for (int what = 0; what <= 5; what++) {
            due("1: count(" + what + ")", f.count(what), counts[what]);
        }
        due("1: digest()", f.digest(), digestOf(0, 1, 0, 0, 0, 0,
            1, 0, 0, 0, 0, 0, 0, 0, 0, 0, 0, 0, 0, 0, 0, 2, 0, 0, 0));
        for (int p = 0; p < 40; p++) {
            due("1: at(" + p + ", 0)", f.at(p, 0), -2000);
        }
        for (int a = 0; a <= 4; a++) {
            for (int b = 0; a + b <= 4; b++) {
                due("1: kernel", f.kernel(a, b, 0), a + b == 0 ? 1 : 0);
            }
        }
        due("1: capacity", f.capacity(2), 2);
        due("1: objects are apart", new FarSums().kernel(0, 0, 1), 1);
    }

    private static void promise2Point() {
        FarSums f = new FarSums();
        int[][] wrong = {{-1, 0, 0}, {64, 0, 0}, {0, -1, 0}, {0, 64, 0}, {0, 0, 1001}, {0, 0, -1001},
            {LEAST, 0, 0}, {MOST, 0, 0}, {0, LEAST, 0}, {0, MOST, 0}, {0, 0, LEAST}, {0, 0, MOST}};
        for (int[] w : wrong) {
            due("2: wrong point", f.point(w[0], w[1], w[2]), -2);
        }
        due("2: first", f.point(0, 0, 1000), 0);
        due("2: second", f.point(63, 63, -1000), 1);
        due("2: third", f.point(63, 0, 0), 2);
        due("2: its x", f.at(2, 0), 63);
        due("2: its y", f.at(2, 1), 0);
        due("2: its weight", f.at(1, 2), -1000);
        due("2: pace", f.pace(0, 5, -6), 1);
        f.take(0);
        f.take(1);
        due("2: least free", f.point(7, 7, 7), 0);
        due("2: pace is 0 at first", f.at(0, 3), 0);
        due("2: pace is 0 at first", f.at(0, 4), 0);
        due("2: next free", f.point(7, 7, 7), 1);
        for (int p = 3; p < 40; p++) {
            due("2: another", f.point(p, p, p), p);
        }
        due("2: full", f.point(0, 0, 0), -4);
        due("2: bad comes before full", f.point(64, 0, 0), -2);
        due("2: bad comes before full", f.point(0, 0, 1001), -2);
        f.take(39);
        due("2: room again", f.point(1, 2, 3), 39);
    }

    private static void promise3Take() {
        FarSums f = new FarSums();
        fill(f, 40);
        due("3: take", f.take(39), 39);
        due("3: take", f.take(0), 38);
        due("3: twice", f.take(0), -2);
        due("3: gone", f.at(0, 0), -2000);
        due("3: others stay", f.at(1, 0), 1);
        for (int p : new int[] {-1, 40, LEAST, MOST}) {
            due("3: wrong", f.take(p), -2);
        }
        due("3: count", f.count(0), 38);
        for (int p = 1; p < 39; p++) {
            due("3: all", f.take(p), 38 - p);
        }
        due("3: boxes go too", f.count(1), 1);
        due("3: no pull is left", f.sum(0, 0), 0);
    }

    private static void promise4Move() {
        FarSums f = new FarSums();
        fill(f, 3);
        f.pace(1, 3, 4);
        due("4: move", f.move(1, 63, 62), 1);
        due("4: x", f.at(1, 0), 63);
        due("4: y", f.at(1, 1), 62);
        due("4: weight stays", f.at(1, 2), 1);
        due("4: pace stays", f.at(1, 3), 3);
        due("4: to where another is", f.move(2, 63, 62), 1);
        due("4: box it came to", f.box(1, 1, 1, 0), 2);
        due("4: box it left", f.box(1, 0, 1, 0), 1);
        due("4: to where it is", f.move(2, 63, 62), 1);
        due("4: box", f.box(1, 1, 1, 0), 2);
        int[][] wrong = {{3, 0, 0}, {-1, 0, 0}, {40, 0, 0}, {LEAST, 0, 0}, {MOST, 0, 0}, {1, -1, 0},
            {1, 64, 0}, {1, 0, -1}, {1, 0, 64}, {1, LEAST, 0}, {1, 0, MOST}};
        for (int[] w : wrong) {
            due("4: wrong", f.move(w[0], w[1], w[2]), -2);
        }
        due("4: stays", f.at(1, 0), 63);
    }

    private static void promise5Weigh() {
        FarSums f = new FarSums();
        fill(f, 3);
        due("5: weigh", f.weigh(2, -1000), 2);
        due("5: weigh", f.weigh(2, 1000), -1000);
        due("5: wrong", f.weigh(2, 1001), -2000);
        due("5: wrong", f.weigh(2, -1001), -2000);
        due("5: wrong", f.weigh(2, LEAST), -2000);
        due("5: wrong", f.weigh(2, MOST), -2000);
        due("5: weigh", f.weigh(2, 0), 1000);
        due("5: weight 0", f.at(2, 2), 0);
        due("5: a point of weight 0 is counted", f.count(0), 3);
        for (int p : new int[] {3, -1, 40, LEAST, MOST}) {
            due("5: wrong", f.weigh(p, 0), -2000);
        }
        f.weigh(1, 6);
        due("5: pull", f.sum(0, 0), 16 * 6);
    }

    private static void promise6Pace() {
        FarSums f = new FarSums();
        fill(f, 2);
        due("6: pace", f.pace(1, -32, 31), 1);
        due("6: vx", f.at(1, 3), -32);
        due("6: vy", f.at(1, 4), 31);
        int[][] wrong = {{2, 0, 0}, {-1, 0, 0}, {40, 0, 0}, {LEAST, 0, 0}, {MOST, 0, 0}, {1, -33, 0},
            {1, 32, 0}, {1, 0, -33}, {1, 0, 32}, {1, LEAST, 0}, {1, 0, MOST}};
        for (int[] w : wrong) {
            due("6: wrong", f.pace(w[0], w[1], w[2]), -2);
        }
        due("6: vx stays", f.at(1, 3), -32);
        due("6: pace", f.pace(1, 31, -32), 1);
        due("6: vx", f.at(1, 3), 31);
        due("6: vy", f.at(1, 4), -32);
        due("6: others stay", f.at(0, 3), 0);
    }

    private static void promise7At() {
        FarSums f = new FarSums();
        f.point(1, 2, 3);
        f.pace(0, 4, 5);
        for (int what = 0; what <= 4; what++) {
            due("7: at", f.at(0, what), what + 1);
        }
        for (int wrong : new int[] {-1, 5, LEAST, MOST}) {
            due("7: wrong what", f.at(0, wrong), -2000);
        }
        for (int wrong : new int[] {-1, 1, 39, 40, LEAST, MOST}) {
            due("7: wrong point", f.at(wrong, 0), -2000);
        }
    }

    private static void promise8Kernel() {
        FarSums f = new FarSums();
        due("8: kernel", f.kernel(0, 0, 9), 1);
        due("8: kernel", f.kernel(0, 0, -9), 9);
        due("8: kernel", f.kernel(0, 4, 3), 0);
        due("8: kernel", f.kernel(4, 0, 4), 0);
        due("8: apart", f.kernel(0, 4, 0), 3);
        due("8: apart", f.kernel(4, 0, 0), 4);
        due("8: apart", f.kernel(0, 0, 1), -9);
        int[][] wrong = {{-1, 0, 0}, {0, -1, 0}, {5, 0, 0}, {0, 5, 0}, {4, 1, 0}, {1, 4, 0}, {3, 2, 0},
            {5, -1, 0}, {-1, 5, 0}, {0, 0, 10}, {0, 0, -10}, {0, 0, LEAST}, {0, 0, MOST},
            {MOST, MOST, 0}, {MOST, 1, 0}, {LEAST, LEAST, 0}, {LEAST, MOST, 0}};
        for (int[] w : wrong) {
            due("8: wrong", f.kernel(w[0], w[1], w[2]), -2000);
        }
        due("8: stays", f.kernel(0, 0, 1), 1);
    }

    private static void promise9Capacity() {
        FarSums f = new FarSums();
        for (int p = 0; p < 9; p++) {
            f.point(1, 1, 1);
        }
        due("9: capacity", f.capacity(8), 2);
        due("9: nine are more than eight", f.count(2), 5);
        f.take(8);
        due("9: eight are not", f.count(2), 0);
        due("9: capacity", f.capacity(1), 8);
        due("9: split at once", f.count(2), 5);
        for (int wrong : new int[] {0, 9, -1, LEAST, MOST}) {
            due("9: wrong", f.capacity(wrong), -2);
        }
        due("9: stays", f.capacity(7), 1);
        due("9: split", f.count(2), 5);
        f.take(7);
        due("9: whole", f.count(2), 0);
    }

    private static void promise10Sum() {
        FarSums f = new FarSums();
        f.point(3, 5, 7);
        due("10: to the 0-th is 1", f.sum(3, 5), 112);
        f.kernel(1, 2, 2);
        due("10: sum", f.sum(10, 1), 112 * (1 + 2 * 7 * 16));
        due("10: signs", f.sum(1, 1), 112 * (1 - 2 * 2 * 16));
        f.point(63, 63, -1000);
        f.kernel(0, 0, 0);
        f.kernel(1, 2, 0);
        f.kernel(4, 0, 9);
        due("10: far", f.sum(0, 0), 16L * (7 * 9 * 81 - 1000L * 9 * 15752961));
        f.kernel(4, 0, 0);
        f.kernel(0, 3, -1);
        due("10: odd", f.sum(63, 0), 16L * (7 * 125 - 1000L * 250047));
        int[][] wrong = {{-1, 0}, {64, 0}, {0, -1}, {0, 64}, {LEAST, 0}, {0, MOST}};
        for (int[] w : wrong) {
            due("10: wrong", f.sum(w[0], w[1]), FarSums.NOT);
        }
    }

    /** By x alone; seen from (63, 63), both points are in the BOX of LEVEL 1 at 0, 0. */
    private static FarSums twoFar() {
        FarSums f = new FarSums();
        f.capacity(1);
        f.kernel(0, 0, 0);
        f.kernel(1, 0, 1);
        f.point(0, 0, 10);
        f.point(1, 0, -4);
        return f;
    }

    private static void promise11Across() {
        FarSums f = twoFar();
        due("11: about by 0", f.across(63, 63, 0, 1, 0), 8 * 95 * 6);
        due("11: end by 0", f.across(63, 63, 0, 1, 1), 8 * 31 * 14);
        due("11: about by 1", f.across(63, 63, 1, 1, 0), 16 * (10 * 63 - 4 * 62));
        due("11: end by 1", f.across(63, 63, 1, 1, 1), 0);
        due("11: cost", f.across(63, 63, 0, 1, 2), 1);
        due("11: sum", f.sum(63, 63), 16 * (10 * 63 - 4 * 62));
        due("11: smaller boxes", f.across(63, 63, 0, 2, 0), 8 * 111 * 6);
        due("11: smaller boxes' end", f.across(63, 63, 0, 2, 1), 8 * 15 * 14);
        due("11: pulls", f.across(0, 0, 0, 4, 0), 16 * 4);
        due("11: pulls have no end", f.across(0, 0, 0, 4, 1), 0);
        due("11: cost of pulls", f.across(0, 0, 0, 4, 2), 2);
        due("11: far by y alone", f.across(0, 63, 0, 1, 2), 1);
        due("11: far by x alone", f.across(63, 0, 0, 1, 2), 1);
        due("11: X is 65, just far", f.across(48, 0, 0, 1, 1), 8 * 31 * 14);
        due("11: X is 63, just not", f.across(47, 0, 0, 1, 1), 8 * 15 * 14);
        due("11: Y is 65, just far", f.across(0, 48, 0, 1, 1), 8 * 31 * 14);
        due("11: Y is 63, just not", f.across(0, 47, 0, 1, 1), 8 * 15 * 14);
        int[][] wrong = {{-1, 0, 0, 1, 0}, {64, 0, 0, 1, 0}, {0, -1, 0, 1, 0}, {0, 64, 0, 1, 0},
            {0, 0, -1, 1, 0}, {0, 0, 5, 1, 0}, {0, 0, 0, 0, 0}, {0, 0, 0, 5, 0}, {0, 0, 0, 1, -1},
            {0, 0, 0, 1, 3}, {LEAST, 0, 0, 1, 0}, {0, MOST, 0, 1, 0}, {0, 0, LEAST, 1, 0},
            {0, 0, 0, MOST, 0}, {0, 0, 0, LEAST, 0}, {0, 0, 0, 1, MOST}};
        for (int[] w : wrong) {
            due("11: wrong", f.across(w[0], w[1], w[2], w[3], w[4]), FarSums.NOT);
        }
        f.weigh(0, 0);
        f.weigh(1, 0);
        due("11: points of weight 0 cost", f.across(63, 63, 0, 1, 2), 1);
        FarSums empty = new FarSums();
        for (int what = 0; what <= 2; what++) {
            due("11: no points", empty.across(0, 0, 0, 1, what), 0);
        }
    }

    private static void promise12Order() {
        FarSums f = twoFar();
        due("12: just near enough", f.order(63, 63, 1, 3472), 0);
        due("12: just not", f.order(63, 63, 1, 3471), 1);
        due("12: nothing off", f.order(63, 63, 1, 0), 1);
        due("12: anything", f.order(63, 63, 1, Long.MAX_VALUE), 0);
        due("12: pulls alone", f.order(0, 0, 4, 0), 0);
        int[][] powers = {{2, 0}, {0, 3}, {2, 2}};
        for (int n = 0; n < 3; n++) {
            f.kernel(powers[n][0], powers[n][1], -1);
            due("12: greater powers", f.order(63, 63, 1, 0), n + 2);
        }
        due("12: wrong", f.order(63, 63, 1, -1), -2);
        due("12: wrong", f.order(63, 63, 1, Long.MIN_VALUE), -2);
        due("12: wrong", f.order(63, 63, 0, 0), -2);
        due("12: wrong", f.order(63, 63, 5, 0), -2);
        due("12: wrong", f.order(64, 63, 1, 0), -2);
        due("12: wrong", f.order(-1, 63, 1, 0), -2);
        due("12: wrong", f.order(63, 64, 1, 0), -2);
        due("12: wrong", f.order(63, -1, 1, 0), -2);
    }

    private static void promise13Way() {
        FarSums f = twoFar();
        int[] box = {1, 0, 0};
        for (int what = 0; what <= 2; what++) {
            due("13: a box", f.way(63, 63, 1, 0, what), box[what]);
            due("13: not so many", f.way(63, 63, 1, 1, what), -1);
            due("13: not so many", f.way(63, 63, 1, MOST, what), -1);
            due("13: a point", f.way(0, 0, 4, 1, what), what == 1 ? 1 : -1);
        }
        f.move(0, 20, 50);
        f.move(1, 22, 50);
        box = new int[] {3, 2, 6};
        for (int what = 0; what <= 2; what++) {
            due("13: i is by x, j by y", f.way(63, 0, 4, 0, what), box[what]);
        }
        waysOrder();
        int[][] wrong = {{-1, 0, 1, 0, 0}, {64, 0, 1, 0, 0}, {0, -1, 1, 0, 0}, {0, 64, 1, 0, 0},
            {0, 0, 0, 0, 0}, {0, 0, 5, 0, 0}, {0, 0, 1, -1, 0}, {0, 0, 1, 0, -1}, {0, 0, 1, 0, 3},
            {0, 0, 1, LEAST, 0}, {0, 0, 1, 0, MOST}, {0, 0, 1, 99, 3}};
        for (int[] w : wrong) {
            due("13: wrong", f.way(w[0], w[1], w[2], w[3], w[4]), -2);
        }
    }

    private static void waysOrder() {
        FarSums f = new FarSums();
        f.point(40, 40, 1);
        f.point(10, 40, 1);
        f.point(40, 10, 1);
        f.point(11, 11, 1);
        f.point(10, 10, 1);
        int[] whole = {3, 4, 2, 1, 0};
        for (int k = 0; k < 5; k++) {
            due("13: by j, then i; of a box by numbers", f.way(31, 31, 4, k, 1), whole[k]);
        }
        due("13: no more", f.way(31, 31, 4, 5, 1), -1);
    }

    /** Many points, each number of the kernel in use, boxes of every level. */
    private static FarSums crowd() {
        FarSums f = new FarSums();
        for (int a = 0; a <= 4; a++) {
            for (int b = 0; a + b <= 4; b++) {
                f.kernel(a, b, (a + b) % 2 == 0 ? 9 - a - 2 * b : a + b - 8);
            }
        }
        for (int p = 0; p < 40; p++) {
            f.point(p < 20 ? p * 37 % 64 : 30 + p % 5, p < 20 ? p * 23 % 64 : 33 - p % 3, 900 - 47 * p);
        }
        return f;
    }

    private static void promises11To13Together() {
        due("13: the crowd goes to the last level", crowd().count(3), 5);
        for (int n = 0; n < 64; n++) {
            for (int t = 1; t <= 4; t++) {
                int x = n * 29 % 64;
                int y = n * 43 % 64;
                endsHold(crowd(), x, y, t);
                wayIsWhole(crowd(), x, y, t);
            }
        }
    }

    private static void endsHold(FarSums f, int x, int y, int t) {
        long exact = f.sum(x, y);
        due("11: nothing is left out by 4", f.across(x, y, 4, t, 0), exact);
        due("11: so its end is 0", f.across(x, y, 4, t, 1), 0);
        for (int o = 0; o <= 4; o++) {
            long off = Math.abs(f.across(x, y, o, t, 0) - exact);
            long end = f.across(x, y, o, t, 1);
            CHECK.holds("11: off by no more than the end", off <= end);
            int least = f.order(x, y, t, end);
            CHECK.holds("12: the order whose end it is would do", least <= o);
            CHECK.holds("12: its end is no more", f.across(x, y, least, t, 1) <= end);
            CHECK.holds("12: the one below would not do",
                least == 0 || f.across(x, y, least - 1, t, 1) > end);
        }
    }

    private static void wayIsWhole(FarSums f, int x, int y, int t) {
        long asked = f.across(x, y, 0, t, 2);
        CHECK.holds("11: no more parts than points", asked >= 1 && asked <= 40);
        // A wrong cost is told above; it must not keep the test from ending.
        int cost = (int) Math.max(0, Math.min(40, asked));
        int within = 0;
        for (int k = 0; k < cost; k++) {
            int level = f.way(x, y, t, k, 0);
            int first = f.way(x, y, t, k, 1);
            within += level == -1 ? 1 : f.box(level, first, f.way(x, y, t, k, 2), 0);
        }
        due("13: every point is in a part of it", within, 40);
        due("13: it has as many parts as the cost", f.way(x, y, t, cost, 1), -1);
    }

    private static void promise14Box() {
        FarSums f = new FarSums();
        due("14: points", f.box(0, 0, 0, 0), 0);
        due("14: bulk", f.box(0, 0, 0, 1), 0);
        due("14: split", f.box(0, 0, 0, 2), 0);
        f.point(32, 31, 5);
        f.point(32, 30, -6);
        due("14: not there", f.box(1, 1, 0, 0), -2);
        f.point(31, 32, 7);
        due("14: split", f.box(0, 0, 0, 2), 1);
        due("14: points", f.box(0, 0, 0, 0), 3);
        due("14: bulk", f.box(0, 0, 0, 1), 18);
        due("14: points by x, y", f.box(1, 1, 0, 0), 2);
        due("14: bulk by x, y", f.box(1, 1, 0, 1), 11);
        due("14: not split", f.box(1, 1, 0, 2), 0);
        due("14: empty but there", f.box(1, 0, 0, 0), 0);
        due("14: not there", f.box(2, 2, 1, 0), -2);
        f.point(33, 31, 0);
        due("14: there", f.box(2, 2, 1, 0), 3);
        due("14: the last level is never split", f.box(5, 16, 15, 2), 0);
        due("14: with more than the capacity", f.box(5, 16, 15, 0), 3);
        due("14: its neighbour", f.box(5, 17, 15, 0), 0);
        due("14: not there", f.box(5, 0, 0, 0), -2);
        int[][] wrong = {{-1, 0, 0, 0}, {6, 0, 0, 0}, {0, 1, 0, 0}, {0, 0, 1, 0}, {0, -1, 0, 0},
            {0, 0, -1, 0}, {1, 2, 0, 0}, {1, 0, 2, 0}, {5, 32, 15, 0}, {5, 16, 32, 0}, {0, 0, 0, -1},
            {0, 0, 0, 3}, {LEAST, 0, 0, 0}, {MOST, 0, 0, 0}, {1, MOST, 0, 0}, {1, 0, LEAST, 0},
            {0, 0, 0, MOST}, {33, 0, 0, 0}};
        for (int[] w : wrong) {
            due("14: wrong", f.box(w[0], w[1], w[2], w[3]), -2);
        }
    }

    private static void promise15Moment() {
        FarSums f = new FarSums();
        due("15: no points", f.moment(0, 0, 0, 0, 0), 0);
        f.point(0, 63, 2);
        f.point(40, 32, -3);
        due("15: (0, 0)", f.moment(0, 0, 0, 0, 0), -1);
        due("15: (1, 0)", f.moment(0, 0, 0, 1, 0), 2 * -63 - 3 * 17);
        due("15: (0, 1)", f.moment(0, 0, 0, 0, 1), 2 * 63 - 3);
        due("15: (4, 0)", f.moment(0, 0, 0, 4, 0), 2L * 15752961 - 3 * 83521);
        due("15: (1, 3)", f.moment(0, 0, 0, 1, 3), 2L * -63 * 250047 - 3 * 17);
        due("15: (2, 2)", f.moment(0, 0, 0, 2, 2), 2L * 15752961 - 3 * 289);
        f.capacity(1);
        due("15: of LEVEL 1", f.moment(1, 1, 1, 2, 1), -3 * 225 * -31);
        due("15: of LEVEL 1, by x, y", f.moment(1, 0, 1, 1, 0), 2 * -31);
        due("15: empty", f.moment(1, 1, 0, 0, 0), 0);
        int[][] wrong = {{2, 0, 0, 0, 0}, {-1, 0, 0, 0, 0}, {6, 0, 0, 0, 0}, {0, 1, 0, 0, 0},
            {0, 0, 1, 0, 0}, {0, -1, 0, 0, 0}, {0, 0, -1, 0, 0}, {0, 0, 0, -1, 0}, {0, 0, 0, 0, -1},
            {0, 0, 0, 5, 0}, {0, 0, 0, 0, 5}, {0, 0, 0, 2, 3}, {0, 0, 0, 5, -1}, {0, 0, 0, MOST, MOST},
            {0, 0, 0, MOST, 1}, {0, 0, 0, LEAST, LEAST}, {LEAST, 0, 0, 0, 0}, {MOST, 0, 0, 0, 0}};
        for (int[] w : wrong) {
            due("15: wrong", f.moment(w[0], w[1], w[2], w[3], w[4]), FarSums.NOT);
        }
    }

    private static void promise16Leaf() {
        FarSums f = new FarSums();
        due("16: whole", f.leaf(0, 63), 0);
        f.capacity(1);
        f.point(0, 0, 1);
        due("16: as many as the capacity", f.leaf(0, 0), 0);
        f.point(16, 0, 0);
        int[][] leaves = {{0, 0, 2}, {16, 15, 2}, {31, 31, 2}, {32, 0, 1}, {0, 32, 1}, {63, 63, 1}};
        for (int[] at : leaves) {
            due("16: leaf", f.leaf(at[0], at[1]), at[2]);
        }
        f.move(1, 1, 1);
        due("16: last level", f.leaf(0, 0), 5);
        due("16: last level's neighbour", f.leaf(3, 2), 5);
        due("16: farther", f.leaf(4, 0), 4);
        int[][] wrong = {{-1, 0}, {64, 0}, {0, -1}, {0, 64}, {LEAST, 0}, {0, MOST}};
        for (int[] w : wrong) {
            due("16: wrong", f.leaf(w[0], w[1]), -2);
        }
    }

    private static void promise17Nearest() {
        FarSums f = new FarSums();
        due("17: none", f.nearest(0, 0, 0), -1);
        f.point(3, 3, 1);
        f.point(0, 5, 1);
        f.point(4, 0, 1);
        f.point(5, 0, 0);
        f.point(0, 4, 1);
        f.point(4, 3, 1);
        f.take(5);
        int[] sorted = {2, 4, 0, 1, 3};
        for (int k = 0; k < 5; k++) {
            due("17: k-th", f.nearest(0, 0, k), sorted[k]);
        }
        due("17: not so many", f.nearest(0, 0, 5), -1);
        due("17: not so many", f.nearest(63, 63, MOST), -1);
        due("17: no way around", f.nearest(63, 63, 0), 0);
        int[][] wrong = {{0, 0, -1}, {0, 0, LEAST}, {-1, 0, 0}, {64, 0, 0}, {0, -1, 0}, {0, 64, 0},
            {MOST, 0, 0}, {0, LEAST, 9}};
        for (int[] w : wrong) {
            due("17: wrong", f.nearest(w[0], w[1], w[2]), -2);
        }
    }

    private static void stepOnce(int a, int b, int c, int weight, int vx, int vy) {
        FarSums f = new FarSums();
        f.kernel(0, 0, 0);
        f.kernel(a, b, c);
        f.point(10, 20, weight);
        due("18: step", f.step(1), 1);
        due("18: vx", f.at(0, 3), vx);
        due("18: vy", f.at(0, 4), vy);
        due("18: x", f.at(0, 0), Math.floorMod(10 + vx, 64));
        due("18: y", f.at(0, 1), Math.floorMod(20 + vy, 64));
    }

    private static void promise18Step() {
        stepOnce(1, 0, 1, 1000, 7, 0);
        stepOnce(0, 1, 1, 1000, 0, 7);
        stepOnce(1, 0, 1, -1000, -8, 0);
        stepOnce(1, 0, 1, -1, -1, 0);
        stepOnce(1, 0, 9, 1000, 6, 0);
        stepOnce(1, 0, 5, 1000, -25, 0);
        stepOnce(0, 1, -5, 1000, 0, 24);
        FarSums f = new FarSums();
        due("18: without points", f.step(8), 8);
        due("18: and on", f.step(1), 9);
        f.point(63, 0, 0);
        f.point(0, 0, 100);
        f.pace(0, 31, -32);
        f.pace(1, 0, -1);
        f.kernel(0, 0, 0);
        f.kernel(2, 0, 1);
        // At 64 and 62: 1600 times (4096 - 3844), by 12 bits 98, so -30.
        due("18: beyond the places", f.step(1), 10);
        due("18: vx", f.at(0, 3), 1);
        due("18: x", f.at(0, 0), 0);
        due("18: y", f.at(0, 1), 32);
        due("18: y", f.at(1, 1), 63);
        atOnce();
        for (int wrong : new int[] {0, 9, -9, LEAST, MOST}) {
            due("18: wrong", f.step(wrong), -2);
        }
        due("18: stays", f.count(4), 10);
    }

    private static void atOnce() {
        FarSums f = new FarSums();
        f.kernel(0, 0, 0);
        f.kernel(2, 0, -1);
        f.point(10, 0, 100);
        f.point(20, 0, 100);
        f.step(1);
        // Each at 10 from the other: 1600 times 40 by 12 bits, 15.625.
        due("18: at once", f.at(0, 3), 15);
        due("18: at once", f.at(1, 3), -16);
        due("18: moved", f.at(0, 0), 25);
        due("18: moved", f.at(1, 0), 4);
        due("18: boxes are in step", f.moment(0, 0, 0, 1, 0), 100 * (50 + 8 - 126));
    }

    private static void promise18StepBack() {
        FarSums f = new FarSums();
        f.capacity(1);
        f.kernel(1, 2, -7);
        f.kernel(3, 1, 9);
        for (int p = 0; p < 40; p++) {
            f.point(p * 37 % 64, p * 23 % 64, 1000 - 51 * p);
            f.pace(p, p - 20, 11 - p);
        }
        long before = f.digest();
        due("18: forth", f.step(8), 8);
        CHECK.holds("18: something moved", f.digest() != before);
        long after = f.digest();
        due("18: part of the way back", f.step(-3), 5);
        due("18: the rest", f.step(-5), 0);
        due("18: to the last", f.digest(), before);
        due("18: and again", f.step(8), 8);
        due("18: the same", f.digest(), after);
        due("18: back", f.step(-8), 0);
        due("18: before the beginning", f.step(-1), -1);
        due("18: counted", f.count(4), -1);
        due("18: farther", f.step(-8), -9);
        due("18: forth", f.step(8), -1);
        due("18: to the beginning", f.step(1), 0);
        due("18: to the last", f.digest(), before);
    }

    private static void promise19Count() {
        FarSums f = new FarSums();
        f.capacity(1);
        f.point(0, 0, -1000);
        f.point(63, 63, 7);
        f.step(3);
        int[] counts = {2, 5, 1, 1, 3, 1007};
        for (int what = 0; what <= 5; what++) {
            due("19: count(" + what + ")", f.count(what), counts[what]);
        }
        f.move(0, 62, 62);
        f.weigh(1, -8);
        counts = new int[] {2, 21, 5, 5, 3, 1008};
        for (int what = 0; what <= 5; what++) {
            due("19: count(" + what + ")", f.count(what), counts[what]);
        }
        f.move(0, 50, 50);
        counts = new int[] {2, 13, 3, 3, 3, 1008};
        for (int what = 0; what <= 5; what++) {
            due("19: count(" + what + ")", f.count(what), counts[what]);
        }
        f.take(0);
        due("19: bulk of those there", f.count(5), 8);
        for (int wrong : new int[] {-1, 6, LEAST, MOST}) {
            due("19: wrong", f.count(wrong), -2);
        }
    }

    private static void promise20Digest() {
        FarSums f = new FarSums();
        f.capacity(1);
        f.point(1, 2, 3);
        f.point(0, 0, 0);
        f.point(40, 10, -5);
        f.take(1);
        f.pace(2, -7, 8);
        f.kernel(0, 1, 2);
        f.kernel(3, 1, -4);
        long[] all = {2, 5, 1, 1, 0, 8,
            0, 1, 2, 3, 0, 0,
            2, 40, 10, -5, -7, 8,
            1, 2, 0, 0, 0,
            0, 0, 0, 0,
            0, 0, 0,
            0, -4,
            0,
            1,
            -2, 3 * -61 - 5 * 17, 3 * -59 - 5 * -43,
            3, 3 * -29, 3 * -27,
            -5, -5 * -15, -5 * -11,
            0, 0, 0,
            0, 0, 0};
        due("20: digest", f.digest(), digestOf(all));
        due("20: again", f.digest(), digestOf(all));
        f.step(1);
        f.step(-1);
        f.move(2, 10, 40);
        all[13] = 10;
        all[14] = 40;
        long[] moved = {-2, 3 * -61 - 5 * -43, 3 * -59 - 5 * 17,
            3, 3 * -29, 3 * -27, 0, 0, 0, -5, -5 * -11, -5 * -15, 0, 0, 0};
        System.arraycopy(moved, 0, all, all.length - moved.length, moved.length);
        due("20: boxes by j, then i", f.digest(), digestOf(all));
    }

    private static void refusalsChangeNothing() {
        FarSums f = new FarSums();
        fill(f, 40);
        f.kernel(1, 1, 3);
        long before = f.digest();
        f.point(0, 0, 0);
        f.point(64, 0, 0);
        f.take(40);
        f.move(0, 64, 0);
        f.move(0, 0, 64);
        f.weigh(0, 1001);
        f.pace(0, 32, 0);
        f.pace(0, 0, 32);
        f.kernel(0, 0, 10);
        f.kernel(5, 0, 1);
        f.capacity(9);
        f.step(9);
        f.step(0);
        f.step(-9);
        due("refusals change nothing", f.digest(), before);
        f.sum(1, 1);
        f.across(1, 1, 2, 1, 0);
        f.order(1, 1, 1, 0);
        f.way(1, 1, 1, 1, 1);
        f.box(0, 0, 0, 1);
        f.moment(0, 0, 0, 1, 1);
        f.leaf(1, 1);
        f.nearest(1, 1, 1);
        f.count(1);
        f.at(1, 1);
        due("questions change nothing", f.digest(), before);
    }
}
