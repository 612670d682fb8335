import java.util.Random;

/** Long runs of calls, the same each time, in which NeighborBook and PlainBook must answer alike. */
public final class RandomRunsTest {
    private static final int RUNS = 3000;
    private static final int CALLS = 512;
    private static final int[] ODD = {-2, -1, 0, 3, 4, 9, 13, 5001, Integer.MIN_VALUE, Integer.MAX_VALUE};
    private static final Due due = new Due();

    private final Random random;
    private final Book book = new Book();
    private final PlainBook plain = new PlainBook();
    private int calls;

    private RandomRunsTest(long seed) {
        random = new Random(seed);
    }

    public static void main(String[] args) {
        for (int run = 0; run < RUNS; run++) {
            due.begin("run " + run);
            new RandomRunsTest(run).steps();
        }
        due.end();
    }

    /** Thrown behind the last call of a run, wherever in a step it comes. */
    private static final class RunIsOver extends RuntimeException {
        private static final long serialVersionUID = 1;
    }

    private void steps() {
        try {
            while (true) {
                step();
            }
        } catch (RunIsOver over) {
            due.is("calls", calls, CALLS);
        }
    }

    private int below(int n) {
        return random.nextInt(n);
    }

    /** Mostly a number that may be right, now and then an odd one. */
    private int pick(int from, int to) {
        return below(12) == 0 ? ODD[below(ODD.length)] : from + below(to - from + 1);
    }

    private void is(String call, int got, int want) {
        calls++;
        due.is("call " + calls + ", " + call, got, want);
        if (calls == CALLS) {
            throw new RunIsOver();
        }
    }

    private void type(long bytes, int n) {
        is("type", book.type(bytes, n), plain.type(bytes, n));
    }

    private void typeAll(int... bytes) {
        int at = 0;
        while (at < bytes.length) {
            int n = Math.min(1 + below(8), bytes.length - at);
            long number = random.nextLong();
            for (int k = 0; k < n; k++) {
                number = number << 8 | bytes[at + k];
            }
            type(number, n);
            at += n;
        }
    }

    private void step() {
        int kind = below(20);
        if (kind < 8) {
            hear();
        } else if (kind < 10) {
            tell();
        } else if (kind == 10) {
            int what = pick(0, 2);
            int v = pick(0, what == 0 ? 12 : 11);
            is("set", book.set(what, v), plain.set(what, v));
        } else if (kind < 13) {
            int p = pick(0, 3);
            int way = below(3) == 0 ? 0 : pick(1, 1);
            is("port", book.port(p, way), plain.port(p, way));
        } else if (kind < 15) {
            int n = below(20) == 0 ? pick(1, 300) : pick(1, 4);
            is("tick", book.tick(n), plain.tick(n));
        } else {
            look();
        }
    }

    private void hear() {
        int[] bytes = frame();
        if (below(6) == 0 && bytes.length > 0) {
            bytes[below(bytes.length)] = below(256);
        }
        if (below(8) == 0) {
            bytes = java.util.Arrays.copyOf(bytes, below(bytes.length + 4));
        }
        typeAll(bytes);
        int p = pick(0, 3);
        is("hear(" + p + ")", book.hear(p), plain.hear(p));
    }

    private int[] frame() {
        int name = below(9);
        int[] start = Bytes.join(Bytes.part(1, Bytes.fill(2 + name % 3, name / 3)),
                Bytes.part(2, 0, below(2)), Bytes.hold(below(4) == 0 ? 0 : 1 + below(60)));
        int[] more = new int[0];
        for (int i = below(4); i > 0; i--) {
            int type = below(5) == 0 ? below(128) : 4 + below(5);
            more = Bytes.join(more, Bytes.part(type, Bytes.fill(below(9) == 0 ? 59 + below(3) : below(4), below(256))));
        }
        return Bytes.join(start, more, Bytes.END);
    }

    private void tell() {
        if (below(4) > 0) {
            typeAll(Bytes.fill(below(5) == 0 ? 58 + below(4) : below(4), below(2)));
        }
        int what = pick(1, 8);
        is("tell(" + what + ")", book.tell(what), plain.tell(what));
    }

    private void look() {
        for (int i = below(4); i >= 0; i--) {
            int a = pick(0, 11);
            int b = pick(0, 8);
            int c = pick(-1, 3);
            is("about(" + a % 4 + ", " + b + ")", book.about(a % 4, b), plain.about(a % 4, b));
            is("count(" + b + ")", book.count(b), plain.count(b));
            is("neighbor(" + a + ", " + b % 4 + ")", book.neighbor(a, b % 4), plain.neighbor(a, b % 4));
            is("content(" + a + ", " + b + ", " + c + ")", book.content(a, b, c), plain.content(a, b, c));
            int k = pick(0, 200);
            is("sent(" + k + ")", book.sent(k), plain.sent(k));
            is("check()", book.check(), 1);
        }
    }
}
