/** The term NEIGHBOUR and promises 6 and 11 to 13: what is heard and kept of neighbours, and for how long. */
public final class NeighborsTest {
    private static final int NONE = NeighborBook.NONE;
    private static final int LEAST = Integer.MIN_VALUE;
    private static final int MOST = Integer.MAX_VALUE;
    private static final Due due = new Due();

    private NeighborsTest() {
    }

    public static void main(String[] args) {
        hears();
        hearsNothingWhereThereIsNoPort();
        hearsWhatIsTypedAlone();
        sameByAllBytes();
        sameByBothSizes();
        sameAtOnePortAlone();
        takesThePlaceOfAll();
        frameTakesNothingOfAnother();
        forgottenWhenItsTicksAreOver();
        forgottenByItsLatestFrame();
        forgottenAtOnceWithZero();
        zeroOfOneNotKnown();
        neighborTells();
        neighborsThatAreNone();
        neighborBits();
        neighborFrames();
        orderInWhichTheyCame();
        contentTells();
        contentEdges();
        contentThatIsNone();
        checks();
        due.end();
    }

    private static int[] named(int[] who, int[] where) {
        return Bytes.join(Bytes.part(1, who), Bytes.part(2, where), Bytes.hold(99), Bytes.END);
    }

    private static void hears() {
        due.begin("promise 6: the typed bytes, which are none then, are heard as a frame at a port");
        for (int p = 0; p < 4; p++) {
            Book book = Book.withPorts(p);
            Bytes.typeInto(book, Bytes.frame(1, 9));
            due.is("count(3)", book.count(3), 14);
            due.is("hear(" + p + ")", book.hear(p), 0);
            due.is("count(3)", book.count(3), 0);
            due.is("neighbor(0, 0)", book.neighbor(0, 0), p);
            due.is("hear(" + p + ") of none at all", book.hear(p), 1);
            Bytes.typeInto(book, 2, 2);
            due.is("hear(" + p + ") of a faulty one", book.hear(p), 1);
            due.is("count(3)", book.count(3), 0);
        }
    }

    private static void hearsNothingWhereThereIsNoPort() {
        due.begin("promise 6: NONE, and they stay, when there is no such port, or it is down");
        Book book = Book.withPorts(1, 2);
        book.port(2, 0);
        Bytes.typeInto(book, Bytes.frame(1, 9));
        for (int p : new int[] {-1, 0, 2, 3, 4, 256, LEAST, MOST}) {
            due.is("hear(" + p + ")", book.hear(p), NONE);
            due.is("count(3)", book.count(3), 14);
            due.is("count(0)", book.count(0), 0);
        }
        due.is("about(2, 2)", book.about(2, 2), 0);
        due.is("about(2, 3)", book.about(2, 3), 0);
        due.is("hear(1) of what stayed", book.hear(1), 0);
        due.is("count(0)", book.count(0), 1);
    }

    private static void hearsWhatIsTypedAlone() {
        due.begin("promise 6: bytes of earlier frames are gone");
        Book book = Book.withPorts(0);
        Bytes.typeInto(book, Bytes.frame(1, 9));
        due.is("tell(6)", book.tell(6), 1);
        due.is("what was told is not heard", Bytes.hear(book, 0, 2, 2), 1);
        Bytes.hear(book, 0, Bytes.frame(1, 9));
        due.is("what was heard is not heard again", Bytes.hear(book, 0, 2, 2, 0xA0), 1);
        due.is("neighbor(0, 2)", book.neighbor(0, 2), 1);
    }

    private static void sameByAllBytes() {
        due.begin("NEIGHBOUR: by who it is and its port (all bytes of these)");
        for (int size : new int[] {2, 3, 59, 60}) {
            int[] bytes = Bytes.fill(size, 9);
            for (int k : new int[] {0, 1, size / 2, size - 1}) {
                int[] other = bytes.clone();
                other[k] = 137;
                Book book = Book.withPorts(0);
                Bytes.hear(book, 0, named(bytes, bytes));
                Bytes.hear(book, 0, named(bytes, bytes));
                due.is("count(0), the same", book.count(0), 1);
                Bytes.hear(book, 0, named(other, bytes));
                due.is("count(0), who is another in byte " + k + " of " + size, book.count(0), 2);
                Bytes.hear(book, 0, named(bytes, other));
                due.is("count(0), port is another in byte " + k + " of " + size, book.count(0), 3);
                Bytes.hear(book, 0, named(other, other));
                due.is("count(0), both are", book.count(0), 4);
                Bytes.hear(book, 0, named(other, bytes));
                due.is("neighbor(1, 2)", book.neighbor(1, 2), 2);
                due.is("check()", book.check(), 1);
            }
        }
    }

    private static void sameByBothSizes() {
        due.begin("NEIGHBOUR: all bytes, and no more of them");
        int[][] sizes = {{2, 3}, {3, 4}, {58, 59}, {59, 60}, {2, 60}};
        for (int[] pair : sizes) {
            for (int value : new int[] {0, 9}) {
                int[] fewer = Bytes.fill(pair[0], value);
                int[] more = Bytes.fill(pair[1], value);
                int[][][] all = {{fewer, fewer}, {more, fewer}, {fewer, more}, {more, more}};
                Book book = Book.withPorts(0);
                for (int i = 0; i < all.length; i++) {
                    Bytes.hear(book, 0, named(all[i][0], all[i][1]));
                    due.is("count(0) of " + pair[0] + " and " + pair[1], book.count(0), i + 1);
                }
                for (int i = all.length - 1; i >= 0; i--) {
                    Bytes.hear(book, 0, named(all[i][0], all[i][1]));
                    due.is("neighbor(" + i + ", 2)", book.neighbor(i, 2), 2);
                }
                due.is("count(0)", book.count(0), all.length);
            }
        }
        Book book = Book.withPorts(0);
        Bytes.hear(book, 0, named(Bytes.of(1, 2, 3), Bytes.of(4, 5)));
        Bytes.hear(book, 0, named(Bytes.of(1, 2), Bytes.of(3, 4, 5)));
        due.is("count(0), the same bytes parted elsewhere", book.count(0), 2);
    }

    private static void sameAtOnePortAlone() {
        due.begin("NEIGHBOUR: is heard at a port");
        Book book = Book.withPorts(0, 1, 2, 3);
        for (int round = 1; round <= 2; round++) {
            for (int p = 3; p >= 0; p--) {
                Bytes.hear(book, p, Bytes.frame(1, 10 * round + p));
            }
            due.is("count(0)", book.count(0), 4);
            for (int i = 0; i < 4; i++) {
                due.is("neighbor(" + i + ", 0)", book.neighbor(i, 0), 3 - i);
                due.is("neighbor(" + i + ", 1)", book.neighbor(i, 1), 10 * round + 3 - i);
                due.is("neighbor(" + i + ", 2)", book.neighbor(i, 2), round);
                due.is("about(" + i + ", 4)", book.about(i, 4), 1);
            }
        }
        Bytes.hear(book, 2, Bytes.frame(1, 0));
        due.is("count(0), one of them holds 0", book.count(0), 3);
        due.is("about(2, 4)", book.about(2, 4), 0);
        due.is("check()", book.check(), 1);
    }

    private static void takesThePlaceOfAll() {
        due.begin("NEIGHBOUR: a frame from one that is known takes the place of all that was known of it");
        Book book = Book.withPorts(0);
        Bytes.hear(book, 0, Bytes.frame(1, 9, Bytes.part(4, 1, 2, 3), Bytes.part(5, 5), Bytes.part(8, 8)));
        Bytes.hear(book, 0, Bytes.frame(1, 50, Bytes.part(4, 9), Bytes.part(6, 6), Bytes.part(8)));
        due.is("count(0)", book.count(0), 1);
        due.is("neighbor(0, 1)", book.neighbor(0, 1), 50);
        due.is("neighbor(0, 3)", book.neighbor(0, 3), 2 | 4 | 16 | 64 | 256);
        due.is("content(0, 4, NONE)", book.content(0, 4, NONE), 1);
        due.is("content(0, 4, 0)", book.content(0, 4, 0), 9);
        due.is("content(0, 4, 1)", book.content(0, 4, 1), NONE);
        due.is("content(0, 5, NONE)", book.content(0, 5, NONE), NONE);
        due.is("content(0, 6, 0)", book.content(0, 6, 0), 6);
        due.is("content(0, 8, NONE)", book.content(0, 8, NONE), 0);
        due.is("content(0, 8, 0)", book.content(0, 8, 0), NONE);
        Bytes.hear(book, 0, Bytes.frame(1, 3));
        due.is("neighbor(0, 1), a shorter time", book.neighbor(0, 1), 3);
        due.is("neighbor(0, 3), nothing more told", book.neighbor(0, 3), 6);
    }

    private static void frameTakesNothingOfAnother() {
        due.begin("NEIGHBOUR: of it, and of no other");
        Book book = Book.withPorts(0);
        Bytes.hear(book, 0, Bytes.frame(1, 9, Bytes.part(4, 1, 2, 3), Bytes.part(5, 5)));
        Bytes.hear(book, 0, Bytes.frame(2, 9, Bytes.part(4, 7)));
        Bytes.hear(book, 0, Bytes.frame(1, 9, Bytes.part(6, 6)));
        due.is("content(1, 4, 0)", book.content(1, 4, 0), 7);
        due.is("content(1, 6, NONE)", book.content(1, 6, NONE), NONE);
        Bytes.hear(book, 0, Bytes.frame(1, 0));
        Bytes.hear(book, 0, Bytes.frame(3, 9));
        due.is("content(0, 1, 1)", book.content(0, 1, 1), 2);
        due.is("content(0, 4, 0)", book.content(0, 4, 0), 7);
        due.is("content(1, 1, 1)", book.content(1, 1, 1), 3);
        due.is("content(1, 4, NONE)", book.content(1, 4, NONE), NONE);
        due.is("content(1, 6, NONE)", book.content(1, 6, NONE), NONE);
    }

    private static void forgottenWhenItsTicksAreOver() {
        due.begin("NEIGHBOUR: it is forgotten when as many ticks are over as its latest frame holds");
        for (int held : new int[] {1, 2, 3, 255, 256, 5000, 5001, 32767, 32768, 65534, 65535}) {
            Book book = Book.withPorts(0);
            Bytes.hear(book, 0, Bytes.frame(1, held));
            due.is("neighbor(0, 1)", book.neighbor(0, 1), held);
            int left = held - 1;
            while (left > 0) {
                int n = Math.min(left, 5000);
                book.tick(n);
                left -= n;
                due.is("neighbor(0, 1)", book.neighbor(0, 1), left + 1);
            }
            due.is("count(0) before the last tick of " + held, book.count(0), 1);
            book.tick(1);
            due.is("count(0) behind the last tick of " + held, book.count(0), 0);
            due.is("neighbor(0, 1)", book.neighbor(0, 1), NONE);
            due.is("content(0, 1, 0)", book.content(0, 1, 0), NONE);
            due.is("about(0, 4)", book.about(0, 4), 0);
        }
        Book book = Book.withPorts(0);
        Bytes.hear(book, 0, Bytes.frame(1, 65535));
        for (int call = 0; call < 13; call++) {
            book.tick(5000);
        }
        book.tick(536);
        due.is("count(0), more ticks than it holds", book.count(0), 0);
    }

    private static void forgottenByItsLatestFrame() {
        due.begin("NEIGHBOUR: as its latest frame holds");
        int[][] rows = {{10, 9, 10}, {10, 9, 2}, {2, 1, 65535}, {65535, 5000, 1}, {10, 9, 1}};
        for (int[] row : rows) {
            Book book = Book.withPorts(0);
            Bytes.hear(book, 0, Bytes.frame(1, row[0]));
            book.tick(row[1]);
            due.is("neighbor(0, 1)", book.neighbor(0, 1), row[0] - row[1]);
            Bytes.hear(book, 0, Bytes.frame(1, row[2]));
            due.is("neighbor(0, 1) anew", book.neighbor(0, 1), row[2]);
            book.tick(1);
            due.is("neighbor(0, 1) a tick on", book.neighbor(0, 1), row[2] == 1 ? NONE : row[2] - 1);
            due.is("count(0)", book.count(0), row[2] == 1 ? 0 : 1);
        }
    }

    private static void forgottenAtOnceWithZero() {
        due.begin("NEIGHBOUR: at once with a frame that holds 0");
        for (int held = 0; held <= 1; held++) {
            Book book = Book.withPorts(0);
            for (int name = 1; name <= 3; name++) {
                Bytes.hear(book, 0, Bytes.frame(name, 9));
            }
            due.is("hear(0), holds " + held, Bytes.hear(book, 0, Bytes.frame(2, held, Bytes.part(4, 4))), 0);
            due.is("count(0)", book.count(0), 2 + held);
            due.is("about(0, 2)", book.about(0, 2), 4);
            due.is("about(0, 3)", book.about(0, 3), 0);
            due.is("about(0, 4)", book.about(0, 4), 2 + held);
            due.is("who comes behind the first", book.content(1, 1, 1), held == 0 ? 3 : 2);
            due.is("neighbor(1, 1)", book.neighbor(1, 1), held == 0 ? 9 : 1);
            book.tick(1);
            due.is("count(0), a tick on", book.count(0), 2);
        }
    }

    private static void zeroOfOneNotKnown() {
        due.begin("NEIGHBOUR: a frame that holds 0 of one that is not known");
        Book book = Book.withPorts(0);
        book.tick(4);
        due.is("hear(0)", Bytes.hear(book, 0, Bytes.frame(1, 0)), 0);
        due.is("count(0)", book.count(0), 0);
        due.is("count(2)", book.count(2), 0);
        due.is("about(0, 2)", book.about(0, 2), 1);
        due.is("the wait", book.about(0, 5), 30);
        due.is("the quick frames", book.about(0, 6), 0);
        due.is("hear(0), holds 1", Bytes.hear(book, 0, Bytes.frame(1, 1)), 0);
        due.is("count(0)", book.count(0), 1);
        due.is("the wait", book.about(0, 5), 1);
        due.is("the quick frames", book.about(0, 6), 4);
        due.is("neighbor(0, 2), the one before is not counted", book.neighbor(0, 2), 1);
    }

    private static Book withTwo() {
        Book book = Book.withPorts(1, 3);
        Bytes.hear(book, 3, Bytes.frame(1, 65535, Bytes.part(8, 1), Bytes.part(100, 1)));
        Bytes.hear(book, 1, Bytes.frame(2, 10, Bytes.part(6), Bytes.part(4, 1)));
        Bytes.hear(book, 1, Bytes.frame(2, 12, Bytes.part(7)));
        book.tick(2);
        return book;
    }

    private static void neighborTells() {
        due.begin("promise 11: neighbor");
        Book book = withTwo();
        int[][] want = {{3, 65533, 1, 2 | 4 | 256}, {1, 10, 2, 2 | 4 | 128}};
        for (int i = 0; i < want.length; i++) {
            for (int what = 0; what < 4; what++) {
                due.is("neighbor(" + i + ", " + what + ")", book.neighbor(i, what), want[i][what]);
            }
        }
    }

    private static void neighborsThatAreNone() {
        due.begin("promise 11: NONE when there is none such");
        Book book = withTwo();
        for (int what : new int[] {-1, 4, 5, 256, LEAST, MOST}) {
            due.is("neighbor(0, " + what + ")", book.neighbor(0, what), NONE);
            due.is("neighbor(1, " + what + ")", book.neighbor(1, what), NONE);
        }
        for (int i : new int[] {-1, 2, 3, 11, 12, 13, LEAST, MOST}) {
            for (int what = 0; what < 4; what++) {
                due.is("neighbor(" + i + ", " + what + ")", book.neighbor(i, what), NONE);
            }
        }
        for (int name = 3; name <= 12; name++) {
            Bytes.hear(book, 1, Bytes.frame(name, 9));
        }
        due.is("neighbor(11, 0), the last of 12", book.neighbor(11, 0), 1);
        due.is("neighbor(12, 0)", book.neighbor(12, 0), NONE);
        book.tick(9);
        due.is("neighbor(1, 1)", book.neighbor(1, 1), 1);
        due.is("neighbor(2, 0), forgotten", book.neighbor(2, 0), NONE);
    }

    private static void neighborBits() {
        due.begin("promise 11: of which types it told something, by bits (bit 1 for type 1, without type 3)");
        for (int there = 0; there < 32; there++) {
            Book book = Book.withPorts(0);
            int[] more = Bytes.part(9, 9);
            for (int type = 4; type <= 8; type++) {
                if ((there >> (type - 4) & 1) != 0) {
                    more = Bytes.join(more, Bytes.part(type, Bytes.fill(type % 3, 1)));
                }
            }
            Bytes.hear(book, 0, Bytes.frame(1, 65535, more));
            due.is("neighbor(0, 3)", book.neighbor(0, 3), 6 | there << 4);
        }
    }

    private static void neighborFrames() {
        due.begin("promise 11: how many frames it sent");
        Book book = Book.withPorts(0);
        for (int frames = 1; frames <= 40; frames++) {
            Bytes.hear(book, 0, Bytes.frame(1, 9));
            due.is("neighbor(0, 2)", book.neighbor(0, 2), frames);
        }
        Bytes.hear(book, 0, Bytes.start(1, 9));
        due.is("neighbor(0, 2), a faulty one is none of it", book.neighbor(0, 2), 40);
        Bytes.hear(book, 0, Bytes.frame(1, 0));
        Bytes.hear(book, 0, Bytes.frame(1, 1));
        due.is("neighbor(0, 2), known anew", book.neighbor(0, 2), 1);
        book.tick(1);
        Bytes.hear(book, 0, Bytes.frame(1, 9));
        due.is("neighbor(0, 2), known anew behind its ticks", book.neighbor(0, 2), 1);
    }

    private static void orderInWhichTheyCame() {
        due.begin("promise 11: from 0, in the order in which they came to be known");
        Book book = Book.withPorts(0, 1);
        for (int name = 0; name < 12; name++) {
            Bytes.hear(book, (name + 1) % 2, Bytes.frame(name, 100));
        }
        Bytes.hear(book, 1, Bytes.frame(4, 200));
        due.is("one that is heard again keeps its place", book.content(4, 1, 1), 4);
        Bytes.hear(book, 1, Bytes.frame(4, 0));
        Bytes.hear(book, 1, Bytes.frame(0, 0));
        Bytes.hear(book, 0, Bytes.frame(11, 0));
        Bytes.hear(book, 1, Bytes.frame(4, 100));
        int[] order = {1, 2, 3, 5, 6, 7, 8, 9, 10, 4};
        for (int i = 0; i < order.length; i++) {
            due.is("content(" + i + ", 1, 1)", book.content(i, 1, 1), order[i]);
        }
        due.is("count(0)", book.count(0), order.length);
        due.is("neighbor(10, 0)", book.neighbor(10, 0), NONE);
    }

    private static Book withContents() {
        Book book = Book.withPorts(0);
        int[] more = Bytes.join(Bytes.part(8, 200, 255), Bytes.part(4, Bytes.fill(60, 44)), Bytes.part(6),
                Bytes.part(9, 1, 2));
        Bytes.hear(book, 0, Bytes.join(Bytes.part(1, 128, 11, 12), Bytes.part(2, 20, 21), Bytes.hold(9), more,
                Bytes.END));
        return book;
    }

    private static void contentTells() {
        due.begin("promise 12: byte k of a neighbour's content of a type; how many bytes: k NONE");
        Book book = withContents();
        int[] sizes = {NONE, 3, 2, NONE, 60, NONE, 0, NONE, 2, NONE};
        for (int type = 0; type < sizes.length; type++) {
            due.is("content(0, " + type + ", NONE)", book.content(0, type, NONE), sizes[type]);
        }
        int[][] bytes = {{1, 0, 128}, {1, 1, 11}, {1, 2, 12}, {2, 0, 20}, {2, 1, 21}, {4, 0, 44}, {4, 59, 44},
            {8, 0, 200}, {8, 1, 255}};
        for (int[] row : bytes) {
            due.is("content(0, " + row[0] + ", " + row[1] + ")", book.content(0, row[0], row[1]), row[2]);
        }
    }

    private static void contentEdges() {
        due.begin("promise 12: the first and the last byte, and those next to them");
        for (int type : new int[] {1, 2, 4, 5, 6, 7, 8}) {
            for (int size : new int[] {0, 1, 2, 59, 60}) {
                if (size >= 2 || type >= 4) {
                    int[] content = Bytes.fill(size, 5);
                    if (size > 0) {
                        content[0] = 254;
                        content[size - 1] = 255;
                    }
                    Book book = Book.withPorts(0);
                    int[] who = type == 1 ? content : Bytes.of(7, 7);
                    int[] where = type == 2 ? content : Bytes.of(7, 7);
                    int[] more = type >= 4 ? Bytes.part(type, content) : new int[0];
                    Bytes.hear(book, 0, Bytes.join(Bytes.part(1, who), Bytes.part(2, where), Bytes.hold(9), more,
                            Bytes.END));
                    String name = "content(0, " + type + ", .. of " + size + ") ";
                    due.is(name + "NONE", book.content(0, type, NONE), size);
                    due.is(name + "-2", book.content(0, type, -2), NONE);
                    due.is(name + "least", book.content(0, type, LEAST), NONE);
                    due.is(name + "0", book.content(0, type, 0), size == 0 ? NONE : size == 1 ? 255 : 254);
                    due.is(name + "last", size == 0 ? NONE : book.content(0, type, size - 1), size == 0 ? NONE : 255);
                    due.is(name + "behind", book.content(0, type, size), NONE);
                    due.is(name + "60", book.content(0, type, 60), NONE);
                    due.is(name + "most", book.content(0, type, MOST), NONE);
                }
            }
        }
    }

    private static void contentThatIsNone() {
        due.begin("promise 12: NONE when there is none such");
        Book book = withContents();
        for (int type : new int[] {-1, 0, 3, 5, 7, 9, 10, 127, 257, LEAST, MOST}) {
            for (int k : new int[] {NONE, 0, 1, -2}) {
                due.is("content(0, " + type + ", " + k + ")", book.content(0, type, k), NONE);
            }
        }
        for (int i : new int[] {-1, 1, 2, 11, 12, LEAST, MOST}) {
            for (int type : new int[] {1, 2, 3, 4}) {
                due.is("content(" + i + ", " + type + ", 0)", book.content(i, type, 0), NONE);
                due.is("content(" + i + ", " + type + ", NONE)", book.content(i, type, NONE), NONE);
            }
        }
    }

    private static void checks() {
        due.begin("promise 13: no two neighbours of a port are the same, and none of one that is down: 1");
        Book book = new Book();
        due.is("check()", book.check(), 1);
        book.port(0, 1);
        book.port(1, 1);
        for (int name = 0; name < 6; name++) {
            Bytes.hear(book, 0, Bytes.frame(name, 9));
            Bytes.hear(book, 1, Bytes.frame(name, 9));
            Bytes.hear(book, 0, Bytes.frame(name, 9));
            due.is("check()", book.check(), 1);
        }
        due.is("count(0)", book.count(0), 12);
        Bytes.hear(book, 1, Bytes.frame(6, 9));
        due.is("check(), one too many", book.check(), 1);
        book.port(0, 0);
        due.is("check(), port 0 down", book.check(), 1);
        due.is("count(0)", book.count(0), 6);
        book.port(0, 1);
        due.is("check(), port 0 up again", book.check(), 1);
        book.tick(9);
        due.is("check(), all forgotten", book.check(), 1);
    }
}
