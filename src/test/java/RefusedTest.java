import java.util.function.Supplier;

/**
 * Every call that the document refuses, next to the last values that are taken: it answers as it is
 * due, and has changed nothing that another call can tell. So have the calls that only tell, and a
 * heard frame with a fault, but for what the document counts of it.
 */
public final class RefusedTest {
    private static final int NONE = NeighborBook.NONE;
    private static final int LEAST = Integer.MIN_VALUE;
    private static final int MOST = Integer.MAX_VALUE;
    private static final Due due = new Due();

    private RefusedTest() {
    }

    public static void main(String[] args) {
        typeOfNoSuchNumber();
        typeBehindTheLast();
        tellOfNoSuchType();
        tellOfTooFewOrTooMany();
        setOfNoSuchWhat();
        setOfNoSuchValue();
        portThatIsNone();
        portThatIsSo();
        hearAtNoPort();
        hearAtAPortThatIsDown();
        tickOfNoSuchNumber();
        callsThatOnlyTell();
        faultsOfAKnownNeighbor();
        faultOfOneTooMany();
        zeroOfOneNotKnown();
        due.end();
    }

    /** A book in which as much as can be is another than in a new one, and these bytes are typed. */
    private static Book busy(int... typed) {
        Book book = Book.withPorts(0, 1, 2);
        book.set(0, 11);
        book.set(1, 3);
        book.set(2, 6);
        Bytes.tell(book, 1, 10, 11, 12);
        Bytes.tell(book, 2, 20, 21);
        Bytes.tell(book, 6, 60, 61, 62);
        book.tick(6);
        Bytes.hear(book, 0, Bytes.frame(1, 20, Bytes.part(4, 44), Bytes.part(8)));
        Bytes.hear(book, 2, Bytes.frame(1, 300));
        book.tick(2);
        Bytes.hear(book, 0, Bytes.frame(2, 25, Bytes.part(5, 55, 56)));
        Bytes.hear(book, 0, Bytes.frame(1, 30, Bytes.part(4, 45)));
        Bytes.hear(book, 2, Bytes.frame(3, 65535, Bytes.part(5, Bytes.fill(61, 1))));
        book.port(1, 0);
        book.tick(9);
        Bytes.typeInto(book, typed);
        return book;
    }

    private static Book fresh(int... typed) {
        Book book = new Book();
        Bytes.typeInto(book, typed);
        return book;
    }

    private static void typeOfNoSuchNumber() {
        due.begin("promise 2: NONE, and nothing is done, when n is not 1 .. 8");
        for (int n : new int[] {0, 9, -1, -8, 16, 255, 256, 257, LEAST, LEAST + 1, MOST}) {
            String name = "type(.., " + n + ")";
            Unchanged.by(due, name, RefusedTest::fresh, book -> book.type(0x1112131415161718L, n), NONE);
            Unchanged.by(due, name, () -> busy(7, 8), book -> book.type(-1L, n), NONE);
        }
    }

    private static void typeBehindTheLast() {
        due.begin("promise 2: NONE, and nothing is done, when there would be more than 700");
        for (int n = 1; n <= 8; n++) {
            int bytes = n;
            int[] frame = Bytes.frame(9, 40, Bytes.part(7, 77), Bytes.part(100, Bytes.fill(500, 1)));
            for (int over = 1; over <= n; over++) {
                int[] typed = java.util.Arrays.copyOf(frame, 700 - n + over);
                String name = "type(.., " + n + ") behind " + typed.length;
                Unchanged.by(due, name, () -> fresh(typed), book -> book.type(0x4142434445464748L, bytes), NONE);
            }
        }
    }

    private static void tellOfNoSuchType() {
        due.begin("promise 3: 0, and nothing is done, when it is none of 1, 2, 4 .. 8");
        int[][] allTyped = {{}, {9}, {8, 9}, Bytes.frame(7, 9), Bytes.fill(59, 3), Bytes.fill(60, 3)};
        for (int what : new int[] {0, 3, 9, -1, -2, 10, 127, 257, LEAST, MOST}) {
            for (int[] typed : allTyped) {
                String name = "tell(" + what + ") of " + typed.length;
                Unchanged.by(due, name, () -> fresh(typed), book -> book.tell(what), 0);
                Unchanged.by(due, name, () -> busy(typed), book -> book.tell(what), 0);
            }
        }
    }

    private static void tellOfTooFewOrTooMany() {
        due.begin("promise 3: 0, and nothing is done, when they are not 2 .. 59 (of 1 and 2), or more than 60");
        for (int what : new int[] {1, 2, 4, 5, 6, 7, 8}) {
            int[] sizes = what <= 2 ? new int[] {0, 1, 60, 61, 700} : new int[] {61, 62, 256, 257, 700};
            for (int size : sizes) {
                int[] typed = Bytes.fill(size, 3);
                String name = "tell(" + what + ") of " + size;
                Unchanged.by(due, name, () -> fresh(typed), book -> book.tell(what), 0);
                if (size < 100) {
                    Unchanged.by(due, name, () -> busy(typed), book -> book.tell(what), 0);
                }
            }
        }
    }

    private static void setOfNoSuchWhat() {
        due.begin("promise 4: 0, and nothing is done, when there is none such");
        for (int what : new int[] {-1, 3, 4, 256, LEAST, MOST}) {
            for (int v : new int[] {1, 2, 5, 8}) {
                String name = "set(" + what + ", " + v + ")";
                Unchanged.by(due, name, RefusedTest::fresh, book -> book.set(what, v), 0);
                Unchanged.by(due, name, RefusedTest::busy, book -> book.set(what, v), 0);
            }
        }
    }

    private static void setOfNoSuchValue() {
        due.begin("promise 4: the interval 1 .. 3600, the hold 2 .. 10, the quick number 1 .. 8");
        int[][] refused = {{0, 3601}, {1, 0, 11}, {0, 9}};
        for (int what = 0; what < refused.length; what++) {
            int which = what;
            for (int v : Bytes.join(refused[what], Bytes.of(-1, -5, 65536, LEAST, LEAST + 5, MOST))) {
                String name = "set(" + what + ", " + v + ")";
                Unchanged.by(due, name, RefusedTest::fresh, book -> book.set(which, v), 0);
                Unchanged.by(due, name, RefusedTest::busy, book -> book.set(which, v), 0);
            }
        }
    }

    private static void portThatIsNone() {
        due.begin("promise 5: 0, and nothing is done, when there is none such");
        for (int p : new int[] {-1, 4, 5, 256, LEAST, MOST}) {
            for (int up : new int[] {0, 1}) {
                Unchanged.by(due, "port(" + p + ", " + up + ")", RefusedTest::busy, book -> book.port(p, up), 0);
            }
        }
        for (int p = 0; p < 4; p++) {
            int port = p;
            for (int up : new int[] {-1, 2, 3, 256, LEAST, LEAST + 1, MOST}) {
                Unchanged.by(due, "port(" + p + ", " + up + ")", RefusedTest::busy, book -> book.port(port, up), 0);
            }
        }
    }

    private static void portThatIsSo() {
        due.begin("promise 5: 0, and nothing is done, when it is so");
        int[] ways = {1, 0, 1, 0};
        for (int p = 0; p < 4; p++) {
            int port = p;
            Unchanged.by(due, "port(" + p + ", 0) at first", RefusedTest::fresh, book -> book.port(port, 0), 0);
            Unchanged.by(due, "port(" + p + ", " + ways[p] + ")", () -> busy(1, 2), book -> book.port(port, ways[port]),
                    0);
            Unchanged.by(due, "port(" + p + ", 1), just up", () -> Book.withPorts(port), book -> book.port(port, 1), 0);
        }
    }

    private static void hearAtNoPort() {
        due.begin("promise 6: NONE, and they stay, when there is no such port");
        for (int[] typed : new int[][] {{}, {2, 2, 1}, Bytes.frame(5, 40, Bytes.part(4, 4)), Bytes.frame(1, 0)}) {
            for (int p : new int[] {-1, 4, 5, 256, LEAST, MOST}) {
                Unchanged.by(due, "hear(" + p + ")", () -> busy(typed), book -> book.hear(p), NONE);
            }
        }
    }

    private static void hearAtAPortThatIsDown() {
        due.begin("promise 6: NONE, and they stay, when it is down");
        for (int[] typed : new int[][] {{}, {2, 2, 1}, Bytes.frame(5, 40, Bytes.part(4, 4)), Bytes.frame(1, 0)}) {
            for (int p = 0; p < 4; p++) {
                int port = p;
                Unchanged.by(due, "hear(" + p + ") at first", () -> fresh(typed), book -> book.hear(port), NONE);
            }
            Unchanged.by(due, "hear(1), down again", () -> busy(typed), book -> book.hear(1), NONE);
            Unchanged.by(due, "hear(3), never up", () -> busy(typed), book -> book.hear(3), NONE);
        }
    }

    private static void tickOfNoSuchNumber() {
        due.begin("promise 7: NONE, and none passes, when they are not 1 .. 5000");
        for (int n : new int[] {0, 5001, 5002, -1, -5000, 65537, LEAST, LEAST + 1, MOST}) {
            Unchanged.by(due, "tick(" + n + ")", RefusedTest::fresh, book -> book.tick(n), NONE);
            Unchanged.by(due, "tick(" + n + ")", () -> busy(1, 2), book -> book.tick(n), NONE);
        }
    }

    private static void callsThatOnlyTell() {
        due.begin("promises 8 to 13: they only tell");
        for (int[] typed : new int[][] {{}, {1, 2, 3}}) {
            Supplier<Book> state = () -> {
                Book book = Book.withPorts(0, 2);
                Bytes.hear(book, 2, Bytes.frame(1, 9, Bytes.part(4, 4)));
                book.tick(2);
                Bytes.typeInto(book, typed);
                return book;
            };
            Unchanged.by(due, "about(0, ..)", state, book -> {
                for (int what = -1; what <= 7; what++) {
                    book.about(0, what);
                    book.about(what, 4);
                    book.count(what);
                }
                return 0;
            }, 0);
            Unchanged.by(due, "sent(), neighbor(), content() and check()", state, book -> {
                for (int k = -1; k <= 9; k++) {
                    book.sent(k);
                    book.neighbor(0, k);
                    book.neighbor(k, 1);
                    book.content(0, k, NONE);
                    book.content(k, 4, 0);
                    book.check();
                }
                return 0;
            }, 0);
        }
    }

    private static void faultsOfAKnownNeighbor() {
        due.begin("promise 6: a frame with a fault is counted, and nothing else comes of it");
        int[] start = Bytes.start(1, 0);
        int[] told = Bytes.join(Bytes.start(1, 500), Bytes.part(4, 99), Bytes.part(7, 98));
        int[][] frames = {{}, start, told, Bytes.join(told, Bytes.of(0)), Bytes.join(start, Bytes.hold(8), Bytes.END),
            Bytes.frame(9, 44, Bytes.part(1, 1, 1)), Bytes.join(told, Bytes.part(8, Bytes.fill(61, 2)), Bytes.END),
            Bytes.join(start, Bytes.of(0, 1, 0, 0)), Bytes.join(told, Bytes.part(7, 97), Bytes.END),
            Bytes.frame(9, 44, Bytes.part(4), Bytes.part(4))};
        int[] faults = {1, 1, 1, 1, 2, 2, 3, 3, 4, 4};
        for (int i = 0; i < frames.length; i++) {
            int[] frame = frames[i];
            Unchanged.by(due, "hear(0) of faulty frame " + i, RefusedTest::busy, book -> Bytes.hear(book, 0, frame),
                    faults[i], "count(2)", "about(0, 3)");
        }
    }

    private static Book withTwelve() {
        Book book = Book.withPorts(0, 3);
        for (int name = 1; name <= 12; name++) {
            Bytes.hear(book, name % 2 * 3, Bytes.frame(name, 10 * name));
        }
        book.tick(5);
        return book;
    }

    private static void faultOfOneTooMany() {
        due.begin("promise 6: one neighbour too many is counted as a fault, and nothing else comes of it");
        Unchanged.by(due, "hear(0) of a thirteenth", RefusedTest::withTwelve,
                book -> Bytes.hear(book, 0, Bytes.frame(13, 99, Bytes.part(4, 4))), 5, "count(2)", "about(0, 3)");
        Unchanged.by(due, "hear(0) of one that is known at port 3", RefusedTest::withTwelve,
                book -> Bytes.hear(book, 0, Bytes.frame(1, 99)), 5, "count(2)", "about(0, 3)");
    }

    private static void zeroOfOneNotKnown() {
        due.begin("NEIGHBOUR: one that was not known is forgotten at once with a frame that holds 0");
        Unchanged.by(due, "hear(0)", RefusedTest::busy, book -> Bytes.hear(book, 0, Bytes.frame(9, 0)), 0,
                "count(2)", "about(0, 2)");
        Unchanged.by(due, "hear(0) with 12 known", RefusedTest::withTwelve,
                book -> Bytes.hear(book, 0, Bytes.frame(13, 0)), 0, "count(2)", "about(0, 2)");
    }
}
