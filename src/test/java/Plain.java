import java.util.ArrayList;
import java.util.List;
import java.util.TreeMap;

/**
 * The document once more, as literally as it can be written and with no regard to cost:
 * what FarSums answers is held against it. Its sums and products refuse to wrap around, so
 * that it also shows that no true answer is beyond a long.
 */
final class Plain {
    private static final class Point {
        int x, y, weight, vx, vy;
    }

    private static final class Box {
        final int level, i, j, side;
        final TreeMap<Integer, Point> within = new TreeMap<>();

        Box(int level, int i, int j) {
            this.level = level;
            this.i = i;
            this.j = j;
            this.side = 64 / (int) power(2, level);
        }

        boolean hasPlace(int x, int y) {
            return x >= i * side && x <= i * side + side - 1
                && y >= j * side && y <= j * side + side - 1;
        }

        long middleX() {
            return 2L * i * side + side - 1;
        }

        long middleY() {
            return 2L * j * side + side - 1;
        }
    }

    private static final class Part {
        final Box box;
        final int point;

        Part(Box box, int point) {
            this.box = box;
            this.point = point;
        }
    }

    private final TreeMap<Integer, Point> points = new TreeMap<>();
    private final int[][] c = new int[5][5];
    private int room = 2;
    private int steps = 0;

    Plain() {
        c[0][0] = 1;
    }

    private static boolean in(long v, long least, long most) {
        return v >= least && v <= most;
    }

    private static boolean place(int x, int y) {
        return in(x, 0, 63) && in(y, 0, 63);
    }

    private static boolean powers(int a, int b) {
        return a >= 0 && b >= 0 && (long) a + b <= 4;
    }

    private static long power(long base, int n) {
        return n == 0 ? 1 : Math.multiplyExact(base, power(base, n - 1));
    }

    private static long times(long... numbers) {
        long product = 1;
        for (long number : numbers) {
            product = Math.multiplyExact(product, number);
        }
        return product;
    }

    private static long choose(int n, int k) {
        return k == 0 || k == n ? 1 : choose(n - 1, k - 1) + choose(n - 1, k);
    }

    private static int bring(long v, int least) {
        long w = v;
        while (w < least) {
            w += Math.max(64, (least - w) / 64 * 64);
        }
        while (w > least + 63) {
            w -= Math.max(64, (w - least - 63) / 64 * 64);
        }
        return (int) w;
    }

    int point(int x, int y, int weight) {
        if (!place(x, y) || !in(weight, -1000, 1000)) {
            return -2;
        }
        for (int p = 0; p < 40; p++) {
            if (!points.containsKey(p)) {
                Point made = new Point();
                made.x = x;
                made.y = y;
                made.weight = weight;
                points.put(p, made);
                return p;
            }
        }
        return -4;
    }

    int take(int p) {
        return points.remove(p) == null ? -2 : points.size();
    }

    int move(int p, int x, int y) {
        Point it = points.get(p);
        if (it == null || !place(x, y)) {
            return -2;
        }
        it.x = x;
        it.y = y;
        return 1;
    }

    int weigh(int p, int weight) {
        Point it = points.get(p);
        if (it == null || !in(weight, -1000, 1000)) {
            return -2000;
        }
        int before = it.weight;
        it.weight = weight;
        return before;
    }

    int pace(int p, int vx, int vy) {
        Point it = points.get(p);
        if (it == null || !in(vx, -32, 31) || !in(vy, -32, 31)) {
            return -2;
        }
        it.vx = vx;
        it.vy = vy;
        return 1;
    }

    int at(int p, int what) {
        Point it = points.get(p);
        if (it == null || !in(what, 0, 4)) {
            return -2000;
        }
        return new int[] {it.x, it.y, it.weight, it.vx, it.vy}[what];
    }

    int kernel(int a, int b, int number) {
        if (!powers(a, b) || !in(number, -9, 9)) {
            return -2000;
        }
        int before = c[a][b];
        c[a][b] = number;
        return before;
    }

    int capacity(int m) {
        if (!in(m, 1, 8)) {
            return -2;
        }
        int before = room;
        room = m;
        return before;
    }

    private long pull(Point it, int x, int y) {
        long shape = 0;
        for (int a = 0; a <= 4; a++) {
            for (int b = 0; a + b <= 4; b++) {
                shape = Math.addExact(shape, times(c[a][b], power(x - it.x, a), power(y - it.y, b)));
            }
        }
        return times(16, it.weight, shape);
    }

    private long sumAnywhere(int x, int y) {
        long all = 0;
        for (Point it : points.values()) {
            all = Math.addExact(all, pull(it, x, y));
        }
        return all;
    }

    long sum(int x, int y) {
        return place(x, y) ? sumAnywhere(x, y) : FarSums.NOT;
    }

    private Box made(int level, int i, int j) {
        Box box = new Box(level, i, j);
        for (int p : points.keySet()) {
            Point it = points.get(p);
            if (box.hasPlace(it.x, it.y)) {
                box.within.put(p, it);
            }
        }
        return box;
    }

    private boolean split(Box box) {
        return box.level < 5 && box.within.size() > room;
    }

    private List<Box> four(Box box) {
        List<Box> boxes = new ArrayList<>();
        for (int j = 2 * box.j; j <= 2 * box.j + 1; j++) {
            for (int i = 2 * box.i; i <= 2 * box.i + 1; i++) {
                boxes.add(made(box.level + 1, i, j));
            }
        }
        return boxes;
    }

    /** All that are there, by LEVEL, then j, then i. */
    private List<Box> there() {
        List<Box> all = new ArrayList<>();
        all.add(made(0, 0, 0));
        for (int n = 0; n < all.size(); n++) {
            if (split(all.get(n))) {
                all.addAll(four(all.get(n)));
            }
        }
        all.sort((one, other) -> one.level != other.level ? one.level - other.level
            : one.j != other.j ? one.j - other.j : one.i - other.i);
        return all;
    }

    private Box find(int level, int i, int j) {
        for (Box box : there()) {
            if (box.level == level && box.i == i && box.j == j) {
                return box;
            }
        }
        return null;
    }

    private long momentOf(Box box, int a, int b) {
        long all = 0;
        for (Point it : box.within.values()) {
            all = Math.addExact(all, times(it.weight,
                power(2L * it.x - box.middleX(), a), power(2L * it.y - box.middleY(), b)));
        }
        return all;
    }

    private long bulk(Iterable<Point> some) {
        long all = 0;
        for (Point it : some) {
            all += Math.abs(it.weight);
        }
        return all;
    }

    /** THE TERM of a BOX, or its END. */
    private long series(Box box, int x, int y, int order, boolean end) {
        long bigX = 2L * x - box.middleX();
        long bigY = 2L * y - box.middleY();
        long all = 0;
        for (int a = 0; a <= 4; a++) {
            for (int b = 0; a + b <= 4; b++) {
                for (int u = 0; u <= a; u++) {
                    for (int v = 0; v <= b; v++) {
                        long shape = times(c[a][b], power(2, 4 - a - b), choose(a, u), choose(b, v),
                            power(bigX, a - u), power(bigY, b - v));
                        if (!end && u + v <= order) {
                            all = Math.addExact(all,
                                times(shape, momentOf(box, u, v), power(-1, u + v)));
                        }
                        if (end && u + v > order) {
                            all = Math.addExact(all, times(Math.abs(shape),
                                power(box.side - 1, u + v), bulk(box.within.values())));
                        }
                    }
                }
            }
        }
        return all;
    }

    private List<Part> parts(Box box, int x, int y, int t) {
        List<Part> found = new ArrayList<>();
        long far = 2L * box.side * t;
        if (box.within.isEmpty()) {
            return found;
        }
        if (Math.abs(2L * x - box.middleX()) >= far || Math.abs(2L * y - box.middleY()) >= far) {
            found.add(new Part(box, -1));
        } else if (split(box)) {
            for (Box next : four(box)) {
                found.addAll(parts(next, x, y, t));
            }
        } else {
            for (int p : box.within.keySet()) {
                found.add(new Part(null, p));
            }
        }
        return found;
    }

    long across(int x, int y, int order, int t, int what) {
        if (!place(x, y) || !in(order, 0, 4) || !in(t, 1, 4) || !in(what, 0, 2)) {
            return FarSums.NOT;
        }
        long about = 0;
        long end = 0;
        long cost = 0;
        for (Part part : parts(made(0, 0, 0), x, y, t)) {
            cost++;
            if (part.box == null) {
                about = Math.addExact(about, pull(points.get(part.point), x, y));
            } else {
                about = Math.addExact(about, series(part.box, x, y, order, false));
                end = Math.addExact(end, series(part.box, x, y, order, true));
            }
        }
        return new long[] {about, end, cost}[what];
    }

    int order(int x, int y, int t, long e) {
        if (!place(x, y) || !in(t, 1, 4) || e < 0) {
            return -2;
        }
        int o = 0;
        while (across(x, y, o, t, 1) > e) {
            o++;
        }
        return o;
    }

    int way(int x, int y, int t, int k, int what) {
        if (!place(x, y) || !in(t, 1, 4) || k < 0 || !in(what, 0, 2)) {
            return -2;
        }
        List<Part> all = parts(made(0, 0, 0), x, y, t);
        if (k >= all.size()) {
            return -1;
        }
        Part part = all.get(k);
        return part.box == null ? new int[] {-1, part.point, -1}[what]
            : new int[] {part.box.level, part.box.i, part.box.j}[what];
    }

    int box(int level, int i, int j, int what) {
        Box box = find(level, i, j);
        if (box == null || !in(what, 0, 2)) {
            return -2;
        }
        return what == 0 ? box.within.size()
            : what == 1 ? (int) bulk(box.within.values()) : split(box) ? 1 : 0;
    }

    long moment(int level, int i, int j, int a, int b) {
        Box box = find(level, i, j);
        return box == null || !powers(a, b) ? FarSums.NOT : momentOf(box, a, b);
    }

    int leaf(int x, int y) {
        for (Box box : there()) {
            if (place(x, y) && !split(box) && box.hasPlace(x, y)) {
                return box.level;
            }
        }
        return -2;
    }

    int nearest(int x, int y, int k) {
        if (!place(x, y) || k < 0) {
            return -2;
        }
        List<Integer> sorted = new ArrayList<>(points.keySet());
        sorted.sort((p, q) -> Double.compare(
            Math.hypot(points.get(p).x - x, points.get(p).y - y),
            Math.hypot(points.get(q).x - x, points.get(q).y - y)));
        return k < sorted.size() ? sorted.get(k) : -1;
    }

    private static int push(long difference) {
        return bring(Math.floorDiv(difference, 4096L), -32);
    }

    private void addPushes(int sign) {
        TreeMap<Integer, int[]> pushes = new TreeMap<>();
        for (int p : points.keySet()) {
            int x = points.get(p).x;
            int y = points.get(p).y;
            pushes.put(p, new int[] {push(sumAnywhere(x + 1, y) - sumAnywhere(x - 1, y)),
                push(sumAnywhere(x, y + 1) - sumAnywhere(x, y - 1))});
        }
        for (int p : points.keySet()) {
            Point it = points.get(p);
            it.vx = bring(it.vx + sign * pushes.get(p)[0], -32);
            it.vy = bring(it.vy + sign * pushes.get(p)[1], -32);
        }
    }

    private void shift(int sign) {
        for (Point it : points.values()) {
            it.x = bring(it.x + sign * it.vx, 0);
            it.y = bring(it.y + sign * it.vy, 0);
        }
    }

    int step(int n) {
        if (n == 0 || !in(n, -8, 8)) {
            return -2;
        }
        for (int s = 0; s < Math.abs(n); s++) {
            if (n > 0) {
                addPushes(1);
                shift(1);
                steps++;
            } else {
                shift(-1);
                addPushes(-1);
                steps--;
            }
        }
        return steps;
    }

    int count(int what) {
        List<Box> all = there();
        switch (what) {
            case 0:
                return points.size();
            case 1:
                return all.size();
            case 2:
                return (int) all.stream().filter(this::split).count();
            case 3:
                return all.get(all.size() - 1).level;
            case 4:
                return steps;
            case 5:
                return (int) bulk(points.values());
            default:
                return -2;
        }
    }

    long digest() {
        List<Long> all = new ArrayList<>();
        for (int what = 0; what <= 5; what++) {
            all.add((long) count(what));
        }
        for (int p : points.keySet()) {
            all.add((long) p);
            for (int what = 0; what <= 4; what++) {
                all.add((long) at(p, what));
            }
        }
        for (int a = 0; a <= 4; a++) {
            for (int b = 0; a + b <= 4; b++) {
                all.add((long) c[a][b]);
            }
        }
        all.add((long) room);
        for (Box box : there()) {
            all.add(momentOf(box, 0, 0));
            all.add(momentOf(box, 1, 0));
            all.add(momentOf(box, 0, 1));
        }
        long h = 151;
        for (long v : all) {
            h = 31 * h + v;
        }
        return h;
    }
}
