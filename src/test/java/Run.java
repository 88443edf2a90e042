import java.util.Arrays;

/** Calls on one new FarSums, held against what one sentence of the document says. */
final class Run {
    static final long LEAST = Integer.MIN_VALUE, MOST = Integer.MAX_VALUE;
    /** "An object is used for at most 512 calls after it has been made". */
    private static final int MOST_CALLS = 512;

    private final FarSums sums = new FarSums();
    private final Check check;
    private final String sentence;
    private int calls = 0;

    Run(Check check, String sentence) {
        this.check = check;
        this.sentence = sentence;
    }

    /** A call whose own answer is no part of the test. */
    long call(String method, long... numbers) {
        calls++;
        if (calls > MOST_CALLS) {
            throw new IllegalStateException("more calls than the document promises answers for");
        }
        return answer(method, numbers);
    }

    int callsSoFar() {
        return calls;
    }

    void due(long want, String method, long... numbers) {
        check.due(told(method, numbers), call(method, numbers), want);
    }

    /** The answers when the last number of the call, a "what" or a k, goes from 0 on. */
    void dueInTurn(long[] wants, String method, long... numbers) {
        long[] tried = Arrays.copyOf(numbers, numbers.length + 1);
        for (int n = 0; n < wants.length; n++) {
            tried[numbers.length] = n;
            due(wants[n], method, tried);
        }
    }

    /** "Refused, changing nothing". */
    void refused(long refusal, String method, long... numbers) {
        long before = call("digest");
        due(refusal, method, numbers);
        check.due(told(method, numbers) + ", after which digest()", call("digest"), before);
    }

    /** Refused with the number at an index just below the least, just above the most, or wild. */
    void refusedOutside(long least, long most, long refusal, int index, String method,
            long... numbers) {
        long[] tried = numbers.clone();
        for (long outside : new long[] {least - 1, most + 1, LEAST, MOST}) {
            tried[index] = outside;
            refused(refusal, method, tried);
        }
    }

    void holds(String what, boolean held) {
        check.holds("\"" + sentence + "\": " + what, held);
    }

    private String told(String method, long... numbers) {
        String all = Arrays.toString(numbers);
        return "\"" + sentence + "\": " + method + "(" + all.substring(1, all.length() - 1) + ")";
    }

    private static int whole(long number) {
        return Math.toIntExact(number);
    }

    private long answer(String method, long[] n) {
        switch (method) {
            case "point":
                return sums.point(whole(n[0]), whole(n[1]), whole(n[2]));
            case "take":
                return sums.take(whole(n[0]));
            case "move":
                return sums.move(whole(n[0]), whole(n[1]), whole(n[2]));
            case "weigh":
                return sums.weigh(whole(n[0]), whole(n[1]));
            case "pace":
                return sums.pace(whole(n[0]), whole(n[1]), whole(n[2]));
            case "at":
                return sums.at(whole(n[0]), whole(n[1]));
            case "kernel":
                return sums.kernel(whole(n[0]), whole(n[1]), whole(n[2]));
            case "capacity":
                return sums.capacity(whole(n[0]));
            case "step":
                return sums.step(whole(n[0]));
            default:
                return questionAnswer(method, n);
        }
    }

    private long questionAnswer(String method, long[] n) {
        switch (method) {
            case "sum":
                return sums.sum(whole(n[0]), whole(n[1]));
            case "across":
                return sums.across(whole(n[0]), whole(n[1]), whole(n[2]), whole(n[3]), whole(n[4]));
            case "order":
                return sums.order(whole(n[0]), whole(n[1]), whole(n[2]), n[3]);
            case "way":
                return sums.way(whole(n[0]), whole(n[1]), whole(n[2]), whole(n[3]), whole(n[4]));
            case "box":
                return sums.box(whole(n[0]), whole(n[1]), whole(n[2]), whole(n[3]));
            case "moment":
                return sums.moment(whole(n[0]), whole(n[1]), whole(n[2]), whole(n[3]), whole(n[4]));
            case "leaf":
                return sums.leaf(whole(n[0]), whole(n[1]));
            case "nearest":
                return sums.nearest(whole(n[0]), whole(n[1]), whole(n[2]));
            case "count":
                return sums.count(whole(n[0]));
            case "digest":
                return sums.digest();
            default:
                throw new IllegalArgumentException(method);
        }
    }
}
