import java.util.Random;

/** Long runs of calls, each answer held against Plain's. The seeds are fixed. */
public final class AgainstPlainTest {
    private static final int CALLS = 512;

    private final Check check = new Check();
    private final Random random;
    private final int wildness;
    private final int spread;
    private final FarSums tried = new FarSums();
    private final Plain plain = new Plain();

    private AgainstPlainTest(long seed) {
        random = new Random(seed);
        // How often, in a hundred, a number is taken without regard to what it is for.
        wildness = new int[] {0, 1, 5}[(int) (seed % 3)];
        // Places huddle in some runs, so that boxes are split to the last level.
        spread = new int[] {64, 12, 3}[(int) (seed / 3 % 3)];
    }

    public static void main(String[] args) {
        Check all = new Check();
        for (long seed = 0; seed < 150; seed++) {
            AgainstPlainTest run = new AgainstPlainTest(seed);
            run.play();
            all.due("wrong answers of run " + seed, run.check.wrongSoFar(), 0);
        }
        all.end();
    }

    private void play() {
        for (int n = 0; n < CALLS && check.wrongSoFar() == 0; n++) {
            if (random.nextInt(3) == 0) {
                change();
            } else {
                ask();
            }
        }
        check.due("the last digest()", tried.digest(), plain.digest());
    }

    private int number(int least, int most) {
        if (random.nextInt(100) < wildness) {
            int[] wild = {least - 1, most + 1, -1, 64, 40, Integer.MIN_VALUE, Integer.MAX_VALUE,
                random.nextInt()};
            return wild[random.nextInt(wild.length)];
        }
        return least + random.nextInt(most - least + 1);
    }

    private int place() {
        return random.nextInt(4) == 0 ? number(0, 63) : number(0, spread - 1) + (64 - spread) / 2;
    }

    private int point() {
        return number(0, Math.max(1, plain.count(0)));
    }

    private void change() {
        int p = point();
        int x = place();
        int y = place();
        switch (random.nextInt(12)) {
            case 0: case 1: case 2: case 3: {
                int w = number(-1000, 1000);
                due("point", tried.point(x, y, w), plain.point(x, y, w), x, y, w);
                break;
            }
            case 4:
                due("take", tried.take(p), plain.take(p), p);
                break;
            case 5:
                due("move", tried.move(p, x, y), plain.move(p, x, y), p, x, y);
                break;
            case 6: {
                int w = number(-1000, 1000);
                due("weigh", tried.weigh(p, w), plain.weigh(p, w), p, w);
                break;
            }
            case 7: {
                int vx = number(-32, 31);
                int vy = number(-32, 31);
                due("pace", tried.pace(p, vx, vy), plain.pace(p, vx, vy), p, vx, vy);
                break;
            }
            case 8: case 9: {
                int a = number(0, 4);
                int b = number(0, 4);
                int c = number(-9, 9);
                due("kernel", tried.kernel(a, b, c), plain.kernel(a, b, c), a, b, c);
                break;
            }
            case 10: {
                int m = number(1, 8);
                due("capacity", tried.capacity(m), plain.capacity(m), m);
                break;
            }
            default: {
                int n = number(-8, 8);
                due("step", tried.step(n), plain.step(n), n);
                break;
            }
        }
    }

    private void ask() {
        int x = place();
        int y = place();
        int t = number(1, 4);
        switch (random.nextInt(13)) {
            case 0: {
                int p = point();
                int what = number(0, 4);
                due("at", tried.at(p, what), plain.at(p, what), p, what);
                break;
            }
            case 1:
                due("sum", tried.sum(x, y), plain.sum(x, y), x, y);
                break;
            case 2: case 3: case 4: {
                int o = number(0, 4);
                int what = number(0, 2);
                due("across", tried.across(x, y, o, t, what), plain.across(x, y, o, t, what),
                    x, y, o, t, what);
                break;
            }
            case 5: {
                long end = plain.across(x, y, number(0, 4), t, 1);
                long e = end + number(-1, 1);
                due("order", tried.order(x, y, t, e), plain.order(x, y, t, e), x, y, t, e);
                break;
            }
            case 6: {
                int k = number(0, 12);
                int what = number(0, 2);
                due("way", tried.way(x, y, t, k, what), plain.way(x, y, t, k, what),
                    x, y, t, k, what);
                break;
            }
            case 7: case 8:
                askBox(x, y);
                break;
            case 9:
                due("leaf", tried.leaf(x, y), plain.leaf(x, y), x, y);
                break;
            case 10: {
                int k = number(0, Math.max(1, plain.count(0)));
                due("nearest", tried.nearest(x, y, k), plain.nearest(x, y, k), x, y, k);
                break;
            }
            case 11: {
                int what = number(0, 5);
                due("count", tried.count(what), plain.count(what), what);
                break;
            }
            default:
                due("digest", tried.digest(), plain.digest());
                break;
        }
    }

    private void askBox(int x, int y) {
        int level = number(0, 5);
        int shift = 6 - Math.min(5, Math.max(0, level));
        int i = number(x >> shift, x >> shift);
        int j = number(y >> shift, y >> shift);
        int a = number(0, 4);
        int b = number(0, 4);
        int what = number(0, 2);
        due("box", tried.box(level, i, j, what), plain.box(level, i, j, what), level, i, j, what);
        due("moment", tried.moment(level, i, j, a, b), plain.moment(level, i, j, a, b),
            level, i, j, a, b);
    }

    private void due(String method, long got, long want, long... arguments) {
        StringBuilder call = new StringBuilder(method).append('(');
        for (int n = 0; n < arguments.length; n++) {
            call.append(n == 0 ? "" : ", ").append(arguments[n]);
        }
        check.due(call.append(')').toString(), got, want);
    }
}
