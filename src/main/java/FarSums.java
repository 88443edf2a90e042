/**
 * What many points pull at a place, one by one or by boxes of boxes.
 * The words in capitals (PLACE, POINT, BOX, TERM, END ..) are the document's.
 */
public final class FarSums {
    public static final int NONE = -1, BAD = -2, FULL = -4;
    public static final long NOT = -9000000000000000000L;

    /** Where BAD itself could be a true answer, as for a WEIGHT of -2. */
    private static final int BAD_NUMBER = -2000;

    /** PLACES go from 0 to WIDTH - 1; WIDTH is 2 to the WIDTH_BITS-th. */
    private static final int WIDTH = 64, WIDTH_BITS = 6;
    private static final int MOST_POINTS = 40;
    private static final int MOST_WEIGHT = 1000;
    private static final int LEAST_PACE = -32, MOST_PACE = 31;
    private static final int MOST_FACTOR = 9;
    private static final int MOST_CAPACITY = 8;
    private static final int MOST_DISTANCE = 4;
    private static final int MOST_STEPS = 8;
    private static final int PUSH_SHIFT = 12;
    private static final int PULL_SCALE = 16;

    private static final int DEEPEST = 5;
    /** The BOXES of all LEVELS stand in one row: here the first of each LEVEL. */
    private static final int[] FIRST_OF_LEVEL = {0, 1, 5, 21, 85, 341};
    private static final int ALL_BOXES = 1365;

    /** The greatest a + b; rows of numbers for (a, b) have SPAN slots for each a. */
    private static final int DEGREE = 4, SPAN = 5, SLOTS = 25;
    /** How many ways there are to choose u of a, in slot (a, u). */
    private static final int[] CHOOSE = {
        1, 0, 0, 0, 0,
        1, 1, 0, 0, 0,
        1, 2, 1, 0, 0,
        1, 3, 3, 1, 0,
        1, 4, 6, 4, 1};

    private final Points points;
    private final Boxes boxes;
    private final Polynomial factors;
    private final Series series;
    private final Trail trail;
    private final Motion motion;

    public FarSums() {
        points = new Points();
        boxes = new Boxes(points);
        factors = new Polynomial();
        factors.set(0, 0, 1);
        series = new Series(factors);
        trail = new Trail(points, boxes);
        motion = new Motion(points, boxes, series);
    }

    public int point(int x, int y, int weight) {
        if (!isPlace(x, y) || !isWeight(weight)) {
            return BAD;
        }
        int p = points.leastFree();
        if (p == NONE) {
            return FULL;
        }
        points.add(p, x, y, weight);
        boxes.enter(x, y);
        return p;
    }

    public int take(int p) {
        if (!points.has(p)) {
            return BAD;
        }
        boxes.leave(points.x[p], points.y[p]);
        points.remove(p);
        return points.number;
    }

    public int move(int p, int x, int y) {
        if (!points.has(p) || !isPlace(x, y)) {
            return BAD;
        }
        boxes.leave(points.x[p], points.y[p]);
        points.put(p, x, y);
        boxes.enter(x, y);
        return 1;
    }

    public int weigh(int p, int weight) {
        if (!points.has(p) || !isWeight(weight)) {
            return BAD_NUMBER;
        }
        int before = points.weight[p];
        points.weight[p] = weight;
        return before;
    }

    public int pace(int p, int vx, int vy) {
        if (!points.has(p) || !isPaceNumber(vx) || !isPaceNumber(vy)) {
            return BAD;
        }
        points.setPace(p, vx, vy);
        return 1;
    }

    public int at(int p, int what) {
        if (!points.has(p)) {
            return BAD_NUMBER;
        }
        return points.read(p, what);
    }

    public int kernel(int a, int b, int c) {
        if (!isPowers(a, b) || c < -MOST_FACTOR || c > MOST_FACTOR) {
            return BAD_NUMBER;
        }
        int before = (int) factors.get(a, b);
        factors.set(a, b, c);
        return before;
    }

    public int capacity(int m) {
        if (m < 1 || m > MOST_CAPACITY) {
            return BAD;
        }
        int before = boxes.room;
        boxes.room = m;
        return before;
    }

    public long sum(int x, int y) {
        if (!isPlace(x, y)) {
            return NOT;
        }
        long all = 0;
        for (int p = 0; p < MOST_POINTS; p++) {
            if (points.here[p]) {
                all += pullOf(p, x, y);
            }
        }
        return all;
    }

    public long across(int x, int y, int order, int t, int what) {
        if (!isPlace(x, y) || order < 0 || order > DEGREE || !isDistance(t)) {
            return NOT;
        }
        trail.trace(x, y, t);
        switch (what) {
            case 0:
                return about(x, y, order);
            case 1:
                return wholeEnd(x, y, order);
            case 2:
                return trail.length;
            default:
                return NOT;
        }
    }

    public int order(int x, int y, int t, long e) {
        if (!isPlace(x, y) || !isDistance(t) || e < 0) {
            return BAD;
        }
        trail.trace(x, y, t);
        for (int o = 0; o < DEGREE; o++) {
            if (wholeEnd(x, y, o) <= e) {
                return o;
            }
        }
        // The greatest ORDER leaves nothing out, so its END is 0.
        return DEGREE;
    }

    public int way(int x, int y, int t, int k, int what) {
        if (!isPlace(x, y) || !isDistance(t) || k < 0 || what < 0 || what > 2) {
            return BAD;
        }
        trail.trace(x, y, t);
        return trail.read(k, what);
    }

    public int box(int level, int i, int j, int what) {
        if (!boxes.isThere(level, i, j)) {
            return BAD;
        }
        switch (what) {
            case 0:
                return boxes.pointsIn(level, i, j);
            case 1:
                boxes.gather(level, i, j);
                return boxes.bulk;
            case 2:
                return boxes.isSplit(level, i, j) ? 1 : 0;
            default:
                return BAD;
        }
    }

    public long moment(int level, int i, int j, int a, int b) {
        if (!boxes.isThere(level, i, j) || !isPowers(a, b)) {
            return NOT;
        }
        boxes.gather(level, i, j);
        return boxes.moments[slot(a, b)];
    }

    public int leaf(int x, int y) {
        if (!isPlace(x, y)) {
            return BAD;
        }
        return boxes.leafLevel(x, y);
    }

    public int nearest(int x, int y, int k) {
        if (!isPlace(x, y) || k < 0) {
            return BAD;
        }
        for (int p = 0; p < MOST_POINTS; p++) {
            if (points.here[p] && points.nearerThan(p, x, y) == k) {
                return p;
            }
        }
        return NONE;
    }

    public int step(int n) {
        if (n == 0 || n < -MOST_STEPS || n > MOST_STEPS) {
            return BAD;
        }
        for (int s = 0; s < n; s++) {
            motion.forth();
        }
        for (int s = 0; s > n; s--) {
            motion.back();
        }
        return motion.steps;
    }

    public int count(int what) {
        switch (what) {
            case 0:
                return points.number;
            case 1:
                // Every BOX but that of LEVEL 0 is one of the four of a SPLIT one.
                return 1 + 4 * boxes.splitBoxes();
            case 2:
                return boxes.splitBoxes();
            case 3:
                return boxes.greatestLevel();
            case 4:
                return motion.steps;
            case 5:
                return points.wholeBulk();
            default:
                return BAD;
        }
    }

    public long digest() {
        long h = 151;
        for (int what = 0; what <= 5; what++) {
            h = 31 * h + count(what);
        }
        h = digestPoints(h);
        h = digestFactors(h);
        h = 31 * h + boxes.room;
        return digestBoxes(h);
    }

    private long digestPoints(long start) {
        long h = start;
        for (int p = 0; p < MOST_POINTS; p++) {
            if (points.here[p]) {
                h = 31 * h + p;
                for (int what = 0; what <= 4; what++) {
                    h = 31 * h + points.read(p, what);
                }
            }
        }
        return h;
    }

    private long digestFactors(long start) {
        long h = start;
        for (int a = 0; a <= DEGREE; a++) {
            for (int b = 0; a + b <= DEGREE; b++) {
                h = 31 * h + factors.get(a, b);
            }
        }
        return h;
    }

    private long digestBoxes(long start) {
        long h = start;
        for (int level = 0; level <= DEEPEST; level++) {
            int wide = 1 << level;
            for (int j = 0; j < wide; j++) {
                for (int i = 0; i < wide; i++) {
                    if (boxes.isThere(level, i, j)) {
                        h = digestMoments(h, level, i, j);
                    }
                }
            }
        }
        return h;
    }

    private long digestMoments(long start, int level, int i, int j) {
        boxes.gather(level, i, j);
        long h = 31 * start + boxes.moments[slot(0, 0)];
        h = 31 * h + boxes.moments[slot(1, 0)];
        return 31 * h + boxes.moments[slot(0, 1)];
    }

    private long pullOf(int p, int x, int y) {
        long shape = factors.valueAt(x - points.x[p], y - points.y[p]);
        return PULL_SCALE * points.weight[p] * shape;
    }

    /** ABOUT, along the trail that has been traced for the same PLACE. */
    private long about(int x, int y, int order) {
        long all = 0;
        for (int k = 0; k < trail.length; k++) {
            if (trail.level[k] == NONE) {
                all += pullOf(trail.first[k], x, y);
            } else {
                all += termOf(k, x, y, order);
            }
        }
        return all;
    }

    /** THE END, along the trail that has been traced for the same PLACE. */
    private long wholeEnd(int x, int y, int order) {
        long all = 0;
        for (int k = 0; k < trail.length; k++) {
            if (trail.level[k] != NONE) {
                all += endOf(k, x, y, order);
            }
        }
        return all;
    }

    private long termOf(int k, int x, int y, int order) {
        int level = trail.level[k];
        boxes.gather(level, trail.first[k], trail.second[k]);
        series.expandTerm(boxes.moments, order);
        return series.result.valueAt(
            fromMiddle(x, level, trail.first[k]), fromMiddle(y, level, trail.second[k]));
    }

    private long endOf(int k, int x, int y, int order) {
        int level = trail.level[k];
        boxes.gather(level, trail.first[k], trail.second[k]);
        series.expandEnd(boxes.bulk, sideOf(level) - 1, order);
        return series.result.valueAt(
            Math.abs(fromMiddle(x, level, trail.first[k])),
            Math.abs(fromMiddle(y, level, trail.second[k])));
    }

    private static boolean isPlace(int x, int y) {
        return x >= 0 && x < WIDTH && y >= 0 && y < WIDTH;
    }

    private static boolean isWeight(int weight) {
        return weight >= -MOST_WEIGHT && weight <= MOST_WEIGHT;
    }

    private static boolean isPaceNumber(int v) {
        return v >= LEAST_PACE && v <= MOST_PACE;
    }

    private static boolean isDistance(int t) {
        return t >= 1 && t <= MOST_DISTANCE;
    }

    private static boolean isPowers(int a, int b) {
        // b is held against what a leaves, as a + b could wrap around.
        return a >= 0 && a <= DEGREE && b >= 0 && b <= DEGREE - a;
    }

    private static int slot(int a, int b) {
        return a * SPAN + b;
    }

    private static int sideOf(int level) {
        return WIDTH >> level;
    }

    /** Twice a PLACE's number less the MIDDLE's, of the BOX numbered i along it. */
    private static int fromMiddle(int x, int level, int i) {
        int side = sideOf(level);
        return 2 * x - (2 * i * side + side - 1);
    }

    private static int wrapPace(long v) {
        return (int) ((v - LEAST_PACE) & (WIDTH - 1)) + LEAST_PACE;
    }

    private static int wrapPlace(int x) {
        return x & (WIDTH - 1);
    }

    /** The POINTS by their numbers, a row for each thing that a POINT has. */
    private static final class Points {
        final boolean[] here = new boolean[MOST_POINTS];
        final int[] x = new int[MOST_POINTS];
        final int[] y = new int[MOST_POINTS];
        final int[] weight = new int[MOST_POINTS];
        final int[] paceX = new int[MOST_POINTS];
        final int[] paceY = new int[MOST_POINTS];
        int number = 0;

        boolean has(int p) {
            return p >= 0 && p < MOST_POINTS && here[p];
        }

        int leastFree() {
            for (int p = 0; p < MOST_POINTS; p++) {
                if (!here[p]) {
                    return p;
                }
            }
            return NONE;
        }

        void add(int p, int px, int py, int w) {
            here[p] = true;
            put(p, px, py);
            weight[p] = w;
            // The number may have belonged to a POINT that had a PACE.
            setPace(p, 0, 0);
            number++;
        }

        void remove(int p) {
            here[p] = false;
            number--;
        }

        void put(int p, int px, int py) {
            x[p] = px;
            y[p] = py;
        }

        void setPace(int p, int vx, int vy) {
            paceX[p] = vx;
            paceY[p] = vy;
        }

        int read(int p, int what) {
            switch (what) {
                case 0:
                    return x[p];
                case 1:
                    return y[p];
                case 2:
                    return weight[p];
                case 3:
                    return paceX[p];
                case 4:
                    return paceY[p];
                default:
                    return BAD_NUMBER;
            }
        }

        int wholeBulk() {
            int all = 0;
            for (int p = 0; p < MOST_POINTS; p++) {
                if (here[p]) {
                    all += Math.abs(weight[p]);
                }
            }
            return all;
        }

        /** How many POINTS come before one, by how far they are and then by numbers. */
        int nearerThan(int p, int px, int py) {
            int mine = rankKey(p, px, py);
            int nearer = 0;
            for (int q = 0; q < MOST_POINTS; q++) {
                if (here[q] && rankKey(q, px, py) < mine) {
                    nearer++;
                }
            }
            return nearer;
        }

        private int rankKey(int p, int px, int py) {
            int dx = x[p] - px;
            int dy = y[p] - py;
            return (dx * dx + dy * dy) * MOST_POINTS + p;
        }
    }

    /**
     * How many POINTS each BOX has, kept in step with them. A BOX has at least as many as
     * any BOX within it, so the one around it alone tells whether it is there.
     */
    private static final class Boxes {
        private final Points points;
        private final int[] tally = new int[ALL_BOXES];
        /** THE CAPACITY. */
        int room = 2;
        /** Of the BOX that was gathered last. */
        final long[] moments = new long[SLOTS];
        int bulk = 0;

        Boxes(Points all) {
            points = all;
        }

        void enter(int x, int y) {
            for (int level = 0; level <= DEEPEST; level++) {
                tally[placeIndex(level, x, y)]++;
            }
        }

        void leave(int x, int y) {
            for (int level = 0; level <= DEEPEST; level++) {
                tally[placeIndex(level, x, y)]--;
            }
        }

        int pointsIn(int level, int i, int j) {
            return tally[boxIndex(level, i, j)];
        }

        boolean isThere(int level, int i, int j) {
            if (level < 0 || level > DEEPEST) {
                return false;
            }
            int wide = 1 << level;
            if (i < 0 || i >= wide || j < 0 || j >= wide) {
                return false;
            }
            return level == 0 || pointsIn(level - 1, i >> 1, j >> 1) > room;
        }

        /** Whether a BOX that is there is SPLIT. */
        boolean isSplit(int level, int i, int j) {
            return level < DEEPEST && pointsIn(level, i, j) > room;
        }

        int splitBoxes() {
            int split = 0;
            for (int n = 0; n < FIRST_OF_LEVEL[DEEPEST]; n++) {
                if (tally[n] > room) {
                    split++;
                }
            }
            return split;
        }

        int greatestLevel() {
            for (int level = DEEPEST; level > 0; level--) {
                for (int n = FIRST_OF_LEVEL[level - 1]; n < FIRST_OF_LEVEL[level]; n++) {
                    if (tally[n] > room) {
                        return level;
                    }
                }
            }
            return 0;
        }

        int leafLevel(int x, int y) {
            for (int level = 0; level < DEEPEST; level++) {
                if (tally[placeIndex(level, x, y)] <= room) {
                    return level;
                }
            }
            return DEEPEST;
        }

        boolean holds(int level, int i, int j, int p) {
            return points.here[p]
                && numberAt(level, points.x[p]) == i && numberAt(level, points.y[p]) == j;
        }

        /** Makes moments and bulk those of a BOX. */
        void gather(int level, int i, int j) {
            for (int n = 0; n < SLOTS; n++) {
                moments[n] = 0;
            }
            bulk = 0;
            for (int p = 0; p < MOST_POINTS; p++) {
                if (holds(level, i, j, p)) {
                    addMoments(points.weight[p],
                        fromMiddle(points.x[p], level, i), fromMiddle(points.y[p], level, j));
                    bulk += Math.abs(points.weight[p]);
                }
            }
        }

        private void addMoments(int weight, int dx, int dy) {
            long byX = weight;
            for (int a = 0; a <= DEGREE; a++) {
                long byBoth = byX;
                for (int b = 0; a + b <= DEGREE; b++) {
                    moments[slot(a, b)] += byBoth;
                    byBoth *= dy;
                }
                byX *= dx;
            }
        }

        /** The number, along x or y, of the BOX of a LEVEL with a PLACE. */
        private static int numberAt(int level, int x) {
            return x >> (WIDTH_BITS - level);
        }

        private static int placeIndex(int level, int x, int y) {
            return boxIndex(level, numberAt(level, x), numberAt(level, y));
        }

        private static int boxIndex(int level, int i, int j) {
            return FIRST_OF_LEVEL[level] + (j << level) + i;
        }
    }

    /** Numbers for (a, b), a + b no more than DEGREE, times x to the a-th, y to the b-th. */
    private static final class Polynomial {
        private final long[] numbers = new long[SLOTS];

        long get(int a, int b) {
            return numbers[slot(a, b)];
        }

        void set(int a, int b, long number) {
            numbers[slot(a, b)] = number;
        }

        void add(int a, int b, long number) {
            numbers[slot(a, b)] += number;
        }

        void clear() {
            for (int n = 0; n < SLOTS; n++) {
                numbers[n] = 0;
            }
        }

        long valueAt(long x, long y) {
            long value = 0;
            for (int a = DEGREE; a >= 0; a--) {
                long row = 0;
                for (int b = DEGREE - a; b >= 0; b--) {
                    row = row * y + numbers[slot(a, b)];
                }
                value = value * x + row;
            }
            return value;
        }
    }

    /**
     * TERM and END of a BOX, as polynomials of X and Y (for END, of their sizes): what does
     * not hang on the PLACE is worked out once, however many PLACES are asked for.
     */
    private static final class Series {
        private final Polynomial factors;
        final Polynomial result = new Polynomial();

        Series(Polynomial kernelFactors) {
            factors = kernelFactors;
        }

        void expandTerm(long[] moments, int order) {
            result.clear();
            for (int a = 0; a <= DEGREE; a++) {
                for (int b = 0; a + b <= DEGREE; b++) {
                    long c = factors.get(a, b) << (DEGREE - a - b);
                    if (c != 0) {
                        addTermParts(a, b, c, moments, order);
                    }
                }
            }
        }

        void expandEnd(long bulk, int reach, int order) {
            result.clear();
            for (int a = 0; a <= DEGREE; a++) {
                for (int b = 0; a + b <= DEGREE; b++) {
                    long c = Math.abs(factors.get(a, b)) << (DEGREE - a - b);
                    if (c != 0) {
                        addEndParts(a, b, c * bulk, reach, order);
                    }
                }
            }
        }

        private void addTermParts(int a, int b, long c, long[] moments, int order) {
            for (int u = 0; u <= a; u++) {
                for (int v = 0; v <= b && u + v <= order; v++) {
                    long part = c * waysToChoose(a, u, b, v) * moments[slot(u, v)];
                    result.add(a - u, b - v, ((u + v) & 1) == 0 ? part : -part);
                }
            }
        }

        private void addEndParts(int a, int b, long c, int reach, int order) {
            for (int u = 0; u <= a; u++) {
                for (int v = Math.max(0, order + 1 - u); v <= b; v++) {
                    result.add(a - u, b - v, c * waysToChoose(a, u, b, v) * power(reach, u + v));
                }
            }
        }

        private static long waysToChoose(int a, int u, int b, int v) {
            return CHOOSE[slot(a, u)] * CHOOSE[slot(b, v)];
        }

        private static long power(long base, int n) {
            long product = 1;
            for (int k = 0; k < n; k++) {
                product *= base;
            }
            return product;
        }
    }

    /**
     * THE WAY, in order: LEVEL, i and j of a BOX, or NONE, the number and NONE for a POINT.
     * Each of its parts stands for other POINTS, so there are never more than POINTS.
     */
    private static final class Trail {
        private final Points points;
        private final Boxes boxes;
        final int[] level = new int[MOST_POINTS];
        final int[] first = new int[MOST_POINTS];
        final int[] second = new int[MOST_POINTS];
        int length = 0;
        private int placeX = 0, placeY = 0, distance = 1;

        Trail(Points allPoints, Boxes allBoxes) {
            points = allPoints;
            boxes = allBoxes;
        }

        void trace(int x, int y, int t) {
            placeX = x;
            placeY = y;
            distance = t;
            length = 0;
            visit(0, 0, 0);
        }

        int read(int k, int what) {
            if (k < 0 || k >= length) {
                return NONE;
            }
            switch (what) {
                case 0:
                    return level[k];
                case 1:
                    return first[k];
                default:
                    return second[k];
            }
        }

        private void visit(int boxLevel, int i, int j) {
            if (boxLevel > DEEPEST || boxes.pointsIn(boxLevel, i, j) == 0) {
                return;
            }
            if (isFar(boxLevel, i, j)) {
                note(boxLevel, i, j);
            } else if (boxes.isSplit(boxLevel, i, j)) {
                visit(boxLevel + 1, 2 * i, 2 * j);
                visit(boxLevel + 1, 2 * i + 1, 2 * j);
                visit(boxLevel + 1, 2 * i, 2 * j + 1);
                visit(boxLevel + 1, 2 * i + 1, 2 * j + 1);
            } else {
                notePoints(boxLevel, i, j);
            }
        }

        private boolean isFar(int boxLevel, int i, int j) {
            int far = 2 * sideOf(boxLevel) * distance;
            return Math.abs(fromMiddle(placeX, boxLevel, i)) >= far
                || Math.abs(fromMiddle(placeY, boxLevel, j)) >= far;
        }

        private void notePoints(int boxLevel, int i, int j) {
            for (int p = 0; p < MOST_POINTS; p++) {
                if (boxes.holds(boxLevel, i, j, p)) {
                    note(NONE, p, NONE);
                }
            }
        }

        private void note(int partLevel, int partFirst, int partSecond) {
            if (length < MOST_POINTS) {
                level[length] = partLevel;
                first[length] = partFirst;
                second[length] = partSecond;
                length++;
            }
        }
    }

    /**
     * STEPS and STEPS BACK. PUSHES hang on PLACES alone, so a STEP BACK finds them again
     * from the PLACES before the STEP, and nothing of the past need be kept.
     */
    private static final class Motion {
        private final Points points;
        private final Boxes boxes;
        private final Series series;
        private final int[] pushX = new int[MOST_POINTS];
        private final int[] pushY = new int[MOST_POINTS];
        int steps = 0;

        Motion(Points allPoints, Boxes allBoxes, Series allSeries) {
            points = allPoints;
            boxes = allBoxes;
            series = allSeries;
        }

        void forth() {
            findPushes();
            addPushes(1);
            shiftPlaces(1);
            steps++;
        }

        void back() {
            shiftPlaces(-1);
            findPushes();
            addPushes(-1);
            steps--;
        }

        /**
         * By the greatest ORDER the TERM of the BOX of LEVEL 0 leaves nothing out: it is
         * THE SUM, at any whole x, y, and far cheaper than PULLS at four places a POINT.
         */
        private void findPushes() {
            boxes.gather(0, 0, 0);
            series.expandTerm(boxes.moments, DEGREE);
            for (int p = 0; p < MOST_POINTS; p++) {
                if (points.here[p]) {
                    int x = points.x[p];
                    int y = points.y[p];
                    pushX[p] = pushOf(wholeSum(x + 1, y) - wholeSum(x - 1, y));
                    pushY[p] = pushOf(wholeSum(x, y + 1) - wholeSum(x, y - 1));
                }
            }
        }

        private long wholeSum(int x, int y) {
            return series.result.valueAt(fromMiddle(x, 0, 0), fromMiddle(y, 0, 0));
        }

        private static int pushOf(long difference) {
            return wrapPace(difference >> PUSH_SHIFT);
        }

        private void addPushes(int sign) {
            for (int p = 0; p < MOST_POINTS; p++) {
                if (points.here[p]) {
                    points.setPace(p,
                        wrapPace(points.paceX[p] + sign * pushX[p]),
                        wrapPace(points.paceY[p] + sign * pushY[p]));
                }
            }
        }

        private void shiftPlaces(int sign) {
            for (int p = 0; p < MOST_POINTS; p++) {
                if (points.here[p]) {
                    boxes.leave(points.x[p], points.y[p]);
                    points.put(p,
                        wrapPlace(points.x[p] + sign * points.paceX[p]),
                        wrapPlace(points.y[p] + sign * points.paceY[p]));
                    boxes.enter(points.x[p], points.y[p]);
                }
            }
        }
    }
}
