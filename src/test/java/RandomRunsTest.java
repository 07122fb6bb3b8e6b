import java.util.Random;

/**
 * All promises at once: runs of calls, ordinary and wrong ones, over links on which packets are lost, spoilt and forged,
 * against the model. The seeds are fixed, so that each run is the same one every time.
 */
public final class RandomRunsTest {
    private static final int RUNS = 1200;
    private static final int FORGED_RUNS = 600;
    /** The picture in the end needs the rest of the 512 calls. */
    private static final int STEPS = 180;
    private static final int[] EDGES = {Integer.MIN_VALUE, -2, -1, 0, 1, 3, 4, 5, 7, 8, 9, 10, 11, 16, 17, 20, 21, 40,
        41, 255, 256, Integer.MAX_VALUE};
    private static final int[] LIMITS = {0, 7, 8, 9, 10, 11, 12, 17, 18, 19, 20, 21, 255};

    private final Random random;
    private final Both x;
    /** A forged packet often takes a row away for good, so that the operation times out: not in every run. */
    private final boolean forges;

    private RandomRunsTest(int seed) {
        random = new Random(seed);
        x = new Both("seed " + seed, random.nextInt(), channels(), channels());
        forges = seed % 4 == 0;
    }

    public static void main(String[] args) {
        for (int seed = 0; seed < RUNS; seed++) {
            new RandomRunsTest(seed).makeCalls();
        }
        for (int seed = 0; seed < FORGED_RUNS; seed++) {
            new RandomRunsTest(RUNS + seed).forge(seed % 2 == 0);
        }
        Checks.end();
    }

    private int channels() {
        int[] kinds = {-1, 0, 1 << random.nextInt(32), 1 << random.nextInt(32), random.nextInt()};
        return kinds[random.nextInt(kinds.length)];
    }

    private int below(int n) {
        return random.nextInt(n);
    }

    private boolean oneIn(int n) {
        return random.nextInt(n) == 0;
    }

    private int one(int... numbers) {
        return numbers[random.nextInt(numbers.length)];
    }

    private void makeCalls() {
        int attributes = below(11);
        for (int k = 0; k < attributes; k++) {
            attempt(this::addAttribute);
        }
        for (int k = 0; k < STEPS; k++) {
            attempt(oneIn(20) ? this::callWrongly : this::call);
        }
        x.picture();
    }

    /** A refused call is compared like every other one, and the run goes on. */
    private static void attempt(Runnable call) {
        try {
            call.run();
        } catch (RuntimeException e) {
            // Both has compared it already.
            return;
        }
    }

    private void call() {
        int kind = below(20);
        if (kind < 6) {
            x.event(oneIn(6) ? 1 + below(3) : 0, spoil(false), spoil(true));
        } else if (kind < 10) {
            x.run(oneIn(8) ? 1 + below(12) : 1 + below(3));
        } else if (kind < 14) {
            operate();
        } else if (kind < 16) {
            x.tell(1 + below(4), oneIn(3));
        } else if (kind < 17) {
            x.put(1 + below(4), oneIn(3), random.nextLong(), below(9));
        } else {
            observe();
        }
    }

    private void addAttribute() {
        int handle = x.attribute(below(3), one(0, 1, 2, 3, 3, 3, 3), random.nextLong(), below(9));
        if (oneIn(2)) {
            x.put(handle, false, random.nextLong(), below(9));
        }
    }

    private void operate() {
        int kind = below(12);
        if (kind < 4) {
            x.begin(kind, kind == 0 ? one(LIMITS) : kind == 3 ? below(3) : handle());
        } else if (kind < 6) {
            x.write(handle(), random.nextLong(), below(9), kind == 5);
        } else {
            int[] message = message(8);
            x.raw(Links.number(message), message.length);
        }
    }

    private int handle() {
        return one(below(12), 1 + below(4), 1 + below(4));
    }

    /** Near to what the server knows. */
    private int[] message(int most) {
        if (oneIn(200)) {
            return oneIn(2) ? Links.bytes(30) : Links.bytes(30, below(256));
        }
        int first = one(2, 10, 12, 16, 18, 22, 22, 22, 24, 24, oneIn(2) ? 20 : below(30));
        int second = first == 2 ? one(LIMITS) : first == 24 ? one(0, 1, 1, 1, 2) : handle();
        int third = first == 16 ? below(3) : one(0, 1, 2, 5, 8, 15, 16, 17, below(20), 255);
        int n = first == 18 || first == 22 ? 2 + below(most - 1) : first == 12 || first == 16 ? 3 : 2;
        int[] message = new int[oneIn(10) ? 1 + below(most) : n];
        for (int k = 0; k < message.length; k++) {
            message[k] = k == 0 ? first : k == 1 ? second : k == 2 ? third : below(256);
        }
        return message;
    }

    private long spoil(boolean server) {
        if (oneIn(20)) {
            return random.nextLong() >>> below(64);
        }
        if (!forges || !oneIn(8)) {
            return 0;
        }
        int head = oneIn(3) ? below(256) : one(1, 2, 3, 4, 8, 12, 16);
        int n = x.model().pieceBytes(server);
        if (n > 3) {
            return Radio.silentSpoil(head, 0, below(256), below(256), below(256));
        }
        int[] piece = new int[n];
        for (int k = 0; k < n; k++) {
            piece[k] = oneIn(2) ? below(256) : 0;
        }
        return Radio.spoil(head, piece);
    }

    private void observe() {
        int edge = one(-1, -1, below(16), one(EDGES));
        switch (below(8)) {
            case 0 -> x.outcome();
            case 1 -> x.error();
            case 2 -> x.data(edge);
            case 3 -> x.note(below(5), edge);
            case 4 -> x.value(1 + below(4), edge);
            case 5 -> x.air(oneIn(2), edge);
            default -> x.look(below(9));
        }
    }

    private void callWrongly() {
        int wrong = one(EDGES);
        int other = one(EDGES);
        switch (below(14)) {
            case 0 -> x.attribute(wrong, one(3, other), random.nextLong(), one(2, one(EDGES)));
            case 1 -> x.put(wrong, oneIn(2), random.nextLong(), one(2, other));
            case 2 -> x.put(1, oneIn(2), random.nextLong(), wrong);
            case 3 -> x.tell(wrong, oneIn(2));
            case 4 -> x.begin(wrong, other);
            case 5 -> x.begin(1, wrong);
            case 6 -> x.write(wrong, random.nextLong(), one(2, other), oneIn(2));
            case 7 -> x.raw(random.nextLong(), wrong);
            case 8 -> x.event(wrong, 0, 0);
            case 9 -> x.run(wrong);
            case 10 -> x.note(wrong, other);
            case 11 -> x.value(wrong, other);
            case 12 -> x.look(wrong);
            default -> x.data(wrong);
        }
    }

    /** Rows that no side has sent come to one of them. */
    private void forge(boolean toServer) {
        Forged forged = new Forged(x);
        for (int k = 0; k < 5; k++) {
            if (toServer) {
                attempt(() -> forged.serverGets(row(message(20))));
            } else {
                attempt(() -> bringAnswers(forged));
            }
            attempt(() -> x.run(1 + below(12)));
            attempt(() -> x.put(1, oneIn(2), random.nextLong(), below(9)));
        }
        x.picture();
    }

    private void bringAnswers(Forged forged) {
        forged.holdServer();
        attempt(this::operate);
        for (int n = 1 + below(3); n > 0; n--) {
            forged.clientGets(row(answer()));
        }
    }

    /** Near to what the client waits for. */
    private int[] answer() {
        int first = one(1, 3, 11, 13, 17, 19, 23, 23, 25, 27, 29, below(256));
        int n = one(1, 2, 3, 4, 4, 8, 8, 9, below(21));
        int[] message = new int[n];
        for (int k = 0; k < n; k++) {
            message[k] = k == 0 ? first : k == 1 ? below(12) : k == 3 && first == 1 ? one(1, 10, 14, below(256)) : below(3);
        }
        return message;
    }

    private int[] row(int[] message) {
        int[] row = Forged.row(message);
        if (oneIn(6)) {
            row[below(Math.min(4, row.length))] ^= 1 << below(8);
        }
        return row;
    }
}
