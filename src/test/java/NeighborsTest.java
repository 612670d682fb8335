/** Promises 6, 9 and 11 to 13: frames that are heard, their faults, and the neighbours that are kept. */
public final class NeighborsTest {
    private static final int NONE = NeighborBook.NONE;
    private static final int LEAST = Integer.MIN_VALUE;
    private static final int MOST = Integer.MAX_VALUE;
    private static final Due due = new Due();

    private NeighborsTest() {
    }

    public static void main(String[] args) {
        hearingWhereNoneListens();
        bytesEnd();
        wrongOrder();
        wrongSize();
        onceMore();
        tooMany();
        theFirstFaultMet();
        behindTheEnd();
        faultsChangeNothing();
        holdingZero();
        quickFramesForNewOnes();
        whoIsTheSame();
        counts();
        neighbors();
        neighborsMoveUp();
        contents();
        contentsTakePlace();
        checks();
        due.end();
    }

    private static NeighborBook bookWithPort(int p) {
        NeighborBook book = new NeighborBook();
        book.port(p, 1);
        return book;
    }

    private static void isFault(String what, int want, int[]... pieces) {
        NeighborBook book = bookWithPort(0);
        due.is(what, Bytes.hear(book, 0, Bytes.join(pieces)), want);
        due.is("count(2) behind " + what, book.count(2), want);
        due.is("count(3) behind " + what, book.count(3), 0);
        due.is("count(0) behind " + what, book.count(0), want == 0 ? 1 : 0);
        due.is("about(0, 2) behind " + what, book.about(0, 2), want == 0 ? 1 : 0);
        due.is("about(0, 3) behind " + what, book.about(0, 3), want == 0 ? 0 : 1);
    }

    private static void hearingWhereNoneListens() {
        due.begin("promise 6, hear at no port");
        NeighborBook book = bookWithPort(1);
        due.is("hear(1) of nothing", book.hear(1), 1);
        Bytes.typeInto(book, Bytes.frame(1, 9));
        for (int p : new int[] {0, 2, 3, -1, 4, LEAST, MOST}) {
            due.is("hear(" + p + ")", book.hear(p), NONE);
        }
        due.is("count(3)", book.count(3), 14);
        due.is("count(2)", book.count(2), 1);
        due.is("about(0, 3)", book.about(0, 3), 0);
        due.is("hear(1)", book.hear(1), 0);
        due.is("count(3)", book.count(3), 0);
        due.is("count(2)", book.count(2), 0);
    }

    private static void bytesEnd() {
        due.begin("promise 6, fault 1");
        int[] start = Bytes.start(1, 9);
        isFault("nothing", 1);
        isFault("a first byte alone", 1, Bytes.of(2));
        isFault("a wrong first byte alone", 1, Bytes.of(6));
        for (int size = 0; size < 14; size++) {
            int[] cut = java.util.Arrays.copyOf(Bytes.frame(1, 9), size);
            isFault("a frame cut to " + size, 1, cut);
        }
        isFault("no end", 1, start);
        isFault("half an end", 1, start, Bytes.of(0));
        isFault("half a second type 1", 1, start, Bytes.of(2));
        isFault("type 4 cut", 1, start, Bytes.head(4, 2), Bytes.of(1));
        isFault("type 9 cut", 1, start, Bytes.head(9, 511), Bytes.fill(510, 0));
        isFault("type 9 whole", 0, start, Bytes.head(9, 511), Bytes.fill(511, 0), Bytes.END);
        int[] fill = Bytes.join(Bytes.part(9, Bytes.fill(511, 0)), Bytes.part(9, Bytes.fill(169, 0)));
        isFault("700 bytes, the end the last of them", 0, start, fill, Bytes.of(18, 0), Bytes.END);
        isFault("700 bytes without an end", 1, start, fill, Bytes.of(18, 0), Bytes.of(18, 0));
        isFault("type 3 cut", 1, Bytes.part(1, 1, 1), Bytes.part(2, 2, 2), Bytes.head(3, 3), Bytes.of(0, 9));
    }

    private static void wrongOrder() {
        due.begin("promise 6, fault 2");
        int[] who = Bytes.part(1, 1, 1);
        int[] where = Bytes.part(2, 2, 2);
        int[] hold = Bytes.hold(9);
        for (int type = 0; type < 128; type++) {
            if (type != 1) {
                isFault("type " + type + " first", 2, Bytes.head(type, 300));
            }
            if (type != 2) {
                isFault("type " + type + " second", 2, who, Bytes.head(type, 0));
            }
            if (type != 3) {
                isFault("type " + type + " third", 2, who, where, Bytes.head(type, 511));
            }
        }
        for (int type = 1; type <= 3; type++) {
            isFault("type " + type + " fourth", 2, who, where, hold, Bytes.head(type, 2));
            isFault("type " + type + " fourth, whole", 2, who, where, hold, Bytes.part(type, 1, 1), Bytes.END);
            isFault("type " + type + " sixth", 2, who, where, hold, Bytes.part(4), Bytes.part(77, 1),
                    Bytes.head(type, 0));
        }
    }

    private static void wrongSize() {
        due.begin("promise 6, fault 3");
        int[] who = Bytes.part(1, 1, 1);
        int[] where = Bytes.part(2, 2, 2);
        int[] start = Bytes.start(1, 9);
        for (int size : new int[] {0, 1, 61, 256, 258, 511}) {
            isFault("type 1 of " + size, 3, Bytes.head(1, size));
            isFault("type 2 of " + size, 3, who, Bytes.head(2, size));
        }
        for (int size : new int[] {2, 60}) {
            isFault("type 1 of " + size, 0, Bytes.part(1, Bytes.fill(size, 5)), where, Bytes.hold(9), Bytes.END);
            isFault("type 2 of " + size, 0, who, Bytes.part(2, Bytes.fill(size, 5)), Bytes.hold(9), Bytes.END);
        }
        isFault("type 3 of 0", 3, who, where, Bytes.head(3, 0));
        isFault("type 3 of 1", 3, who, where, Bytes.head(3, 1));
        isFault("type 3 of 511", 0, who, where, Bytes.part(3, Bytes.fill(511, 1)), Bytes.END);
        for (int type = 4; type <= 8; type++) {
            isFault("type " + type + " of 61", 3, start, Bytes.head(type, 61));
            isFault("type " + type + " of 511", 3, start, Bytes.head(type, 511));
            isFault("type " + type + " of 60", 0, start, Bytes.part(type, Bytes.fill(60, 1)), Bytes.END);
            isFault("type " + type + " of 0", 0, start, Bytes.part(type), Bytes.END);
        }
        for (int type = 9; type <= 127; type++) {
            isFault("type " + type + " of 61", 0, start, Bytes.part(type, Bytes.fill(61, 1)), Bytes.END);
        }
        isFault("an end of 1", 3, start, Bytes.part(0, 1));
        isFault("an end of 256", 3, start, Bytes.head(0, 256));
    }

    private static void onceMore() {
        due.begin("promise 6, fault 4");
        int[] start = Bytes.start(1, 9);
        for (int type = 4; type <= 8; type++) {
            isFault("type " + type + " twice", 4, start, Bytes.part(type, 1), Bytes.part(type, 1), Bytes.END);
            isFault("type " + type + " twice, empty", 4, start, Bytes.part(type), Bytes.part(type));
            isFault("type " + type + " twice, apart", 4, start, Bytes.part(type, 1),
                    Bytes.part(type == 8 ? 4 : type + 1, 1), Bytes.part(20, 1), Bytes.part(type, 2), Bytes.END);
        }
        isFault("type 9 twice", 0, start, Bytes.part(9, 1), Bytes.part(9, 1), Bytes.END);
        isFault("all of 4 to 8, backwards", 0, start, Bytes.part(8, 1), Bytes.part(7, 1), Bytes.part(6, 1),
                Bytes.part(5, 1), Bytes.part(4, 1), Bytes.END);
    }

    private static void tooMany() {
        due.begin("promise 6, fault 5");
        NeighborBook book = bookWithPort(0);
        book.port(1, 1);
        for (int name = 0; name < 12; name++) {
            due.is("hear of neighbour " + name, Bytes.hear(book, name % 2, Bytes.frame(name, 50 + name)), 0);
        }
        book.tick(5);
        int wait = book.about(0, 5);
        due.is("the thirteenth", Bytes.hear(book, 0, Bytes.frame(12, 9)), 5);
        due.is("count(2)", book.count(2), 5);
        due.is("count(0)", book.count(0), 12);
        due.is("about(0, 3)", book.about(0, 3), 1);
        due.is("the wait stays", book.about(0, 5), wait);
        due.is("the quick frames stay", book.about(0, 6), 0);
        due.is("a known one at another port", Bytes.hear(book, 1, Bytes.frame(0, 9)), 5);
        due.is("a known one", Bytes.hear(book, 0, Bytes.frame(0, 90)), 0);
        due.is("neighbor(0, 1)", book.neighbor(0, 1), 90);
        due.is("another that holds 0", Bytes.hear(book, 0, Bytes.frame(12, 0)), 0);
        due.is("count(0)", book.count(0), 12);
        due.is("an earlier fault of the thirteenth", Bytes.hear(book, 0, Bytes.start(12, 9)), 1);
        Bytes.hear(book, 1, Bytes.frame(3, 0));
        due.is("count(0)", book.count(0), 11);
        due.is("the next one", Bytes.hear(book, 0, Bytes.frame(12, 9)), 0);
        due.is("it is the last", book.content(11, 1, 1), 12);
        due.is("check()", book.check(), 1);
    }

    private static void theFirstFaultMet() {
        due.begin("promise 6, the first fault met");
        int[] start = Bytes.start(1, 9);
        isFault("3 before 2", 3, Bytes.part(1, 1), Bytes.part(3, 1));
        isFault("2 before 3 in one part", 2, start, Bytes.part(1, 1));
        isFault("3 before 1 in one part", 3, start, Bytes.head(5, 100));
        isFault("4 before 3", 4, start, Bytes.part(5), Bytes.part(5), Bytes.part(6, Bytes.fill(61, 1)));
        isFault("3 before 4 in one part", 3, start, Bytes.part(5), Bytes.part(5, Bytes.fill(61, 1)), Bytes.END);
        isFault("1 before 4 in one part", 1, start, Bytes.part(5), Bytes.head(5, 2), Bytes.of(1));
        isFault("2 before 4", 2, start, Bytes.part(5), Bytes.part(1, 1, 1), Bytes.part(5), Bytes.END);
    }

    private static void behindTheEnd() {
        due.begin("promise 6, behind the end");
        isFault("a byte", 0, Bytes.frame(1, 9), Bytes.of(2));
        isFault("a wrong part", 0, Bytes.frame(1, 9), Bytes.part(1, 1));
        isFault("up to 700 bytes", 0, Bytes.frame(1, 9), Bytes.fill(686, 255));
        NeighborBook book = bookWithPort(0);
        Bytes.hear(book, 0, Bytes.join(Bytes.frame(1, 9), Bytes.part(4, 1)));
        due.is("neighbor(0, 3)", book.neighbor(0, 3), 6);
        Bytes.typeInto(book, Bytes.frame(1, 9));
        book.tell(1);
        due.is("old typed bytes are not heard", Bytes.hear(book, 0, 2, 2), 1);
    }

    private static void faultsChangeNothing() {
        due.begin("promise 6, a fault changes no neighbour");
        NeighborBook book = bookWithPort(0);
        Bytes.hear(book, 0, Bytes.frame(1, 20, Bytes.part(4, 44, 45)));
        book.tick(5);
        int wait = book.about(0, 5);
        Bytes.hear(book, 0, Bytes.join(Bytes.start(1, 0), Bytes.part(5, 55), Bytes.part(5, 55), Bytes.END));
        Bytes.hear(book, 0, Bytes.join(Bytes.start(2, 30), Bytes.part(4, 66)));
        due.is("count(0)", book.count(0), 1);
        due.is("neighbor(0, 1)", book.neighbor(0, 1), 15);
        due.is("neighbor(0, 2)", book.neighbor(0, 2), 1);
        due.is("neighbor(0, 3)", book.neighbor(0, 3), 22);
        due.is("content(0, 4, 0)", book.content(0, 4, 0), 44);
        due.is("the wait", book.about(0, 5), wait);
        due.is("about(0, 3)", book.about(0, 3), 2);
    }

    private static void holdingZero() {
        due.begin("promise 6, a frame that holds 0");
        NeighborBook book = bookWithPort(0);
        book.tick(4);
        due.is("of one that is not known", Bytes.hear(book, 0, Bytes.frame(1, 0)), 0);
        due.is("count(0)", book.count(0), 0);
        due.is("about(0, 2)", book.about(0, 2), 1);
        due.is("the wait", book.about(0, 5), 30);
        due.is("the quick frames", book.about(0, 6), 0);
        Bytes.hear(book, 0, Bytes.frame(1, 9));
        Bytes.hear(book, 0, Bytes.frame(2, 9));
        due.is("of one that is known", Bytes.hear(book, 0, Bytes.frame(1, 0)), 0);
        due.is("count(0)", book.count(0), 1);
        due.is("who stays", book.content(0, 1, 1), 2);
        due.is("hold 256", Bytes.hear(book, 0, Bytes.frame(2, 256)), 0);
        due.is("neighbor(0, 1)", book.neighbor(0, 1), 256);
        Bytes.hear(book, 0, Bytes.join(Bytes.part(1, 0xA0, 2), Bytes.part(2, 0xB0, 2),
                Bytes.part(3, 0, 0, 9), Bytes.END));
        due.is("only the first two bytes of the hold", book.count(0), 0);
    }

    private static void quickFramesForNewOnes() {
        due.begin("promise 6, a neighbour that was not known");
        NeighborBook book = bookWithPort(0);
        book.port(1, 1);
        book.tick(6);
        book.set(2, 2);
        Bytes.hear(book, 0, Bytes.frame(1, 9));
        due.is("quick frames left", book.about(0, 6), 2);
        due.is("the wait", book.about(0, 5), 1);
        due.is("quick frames left of the other port", book.about(1, 6), 0);
        due.is("the wait of the other port", book.about(1, 5), 28);
        due.is("tick(1)", book.tick(1), 1);
        book.set(2, 1);
        Bytes.hear(book, 0, Bytes.frame(2, 9));
        due.is("as many as are left", book.about(0, 6), 1);
        book.tick(2);
        due.is("the wait, none left", book.about(0, 5), 29);
        Bytes.hear(book, 0, Bytes.frame(2, 9));
        due.is("the wait, a known one", book.about(0, 5), 29);
        due.is("quick frames, a known one", book.about(0, 6), 0);
        book.set(2, 8);
        book.port(0, 0);
        book.port(0, 1);
        book.set(2, 3);
        Bytes.hear(book, 0, Bytes.frame(2, 9));
        due.is("fewer than are left", book.about(0, 6), 8);
    }

    private static void whoIsTheSame() {
        due.begin("promise 6, who is the same");
        NeighborBook book = bookWithPort(0);
        book.port(2, 1);
        int[] tail = Bytes.join(Bytes.hold(99), Bytes.END);
        int[][] starts = {
            Bytes.join(Bytes.part(1, 1, 2), Bytes.part(2, 3, 4)),
            Bytes.join(Bytes.part(1, 1, 3), Bytes.part(2, 3, 4)),
            Bytes.join(Bytes.part(1, 2, 2), Bytes.part(2, 3, 4)),
            Bytes.join(Bytes.part(1, 1, 2), Bytes.part(2, 4, 4)),
            Bytes.join(Bytes.part(1, 1, 2), Bytes.part(2, 3, 5)),
            Bytes.join(Bytes.part(1, 1, 2, 0), Bytes.part(2, 3, 4)),
            Bytes.join(Bytes.part(1, 1, 2), Bytes.part(2, 3, 4, 0)),
            Bytes.join(Bytes.part(1, 1, 2, 3), Bytes.part(2, 4, 4)),
            Bytes.join(Bytes.part(1, Bytes.fill(60, 9)), Bytes.part(2, 3, 4)),
            Bytes.join(Bytes.part(1, Bytes.join(Bytes.fill(59, 9), Bytes.of(8))), Bytes.part(2, 3, 4)),
        };
        for (int i = 0; i < starts.length; i++) {
            Bytes.hear(book, 0, Bytes.join(starts[i], tail));
            due.is("count(0)", book.count(0), i + 1);
        }
        for (int i = 0; i < starts.length; i++) {
            Bytes.hear(book, 0, Bytes.join(starts[i], tail));
            due.is("count(0)", book.count(0), starts.length);
            due.is("neighbor(" + i + ", 2)", book.neighbor(i, 2), 2);
        }
        Bytes.hear(book, 2, Bytes.join(starts[0], tail));
        due.is("count(0), the same at another port", book.count(0), starts.length + 1);
        due.is("check()", book.check(), 1);
    }

    private static void counts() {
        due.begin("promise 9, count");
        NeighborBook book = bookWithPort(2);
        Bytes.tell(book, 5, 1, 2, 3);
        book.tick(7);
        Bytes.hear(book, 2, Bytes.frame(1, 9));
        Bytes.hear(book, 2, 2, 1);
        Bytes.typeInto(book, 1, 2, 3);
        int[] want = {1, 7, 3, 3, 2, 20};
        for (int what = 0; what < want.length; what++) {
            due.is("count(" + what + ")", book.count(what), want[what]);
        }
        for (int what : new int[] {-1, 6, LEAST, MOST}) {
            due.is("count(" + what + ")", book.count(what), NONE);
        }
        book.port(0, 1);
        book.port(0, 0);
        due.is("count(4), a port that went down", book.count(4), 0);
    }

    private static void neighbors() {
        due.begin("promise 11, neighbor");
        NeighborBook book = bookWithPort(3);
        book.port(1, 1);
        Bytes.hear(book, 3, Bytes.frame(1, 65535, Bytes.part(8, 1), Bytes.part(100, 1)));
        Bytes.hear(book, 1, Bytes.frame(2, 10, Bytes.part(6), Bytes.part(4, 1)));
        Bytes.hear(book, 1, Bytes.frame(2, 12, Bytes.part(7)));
        book.tick(2);
        int[][] want = {{3, 65533, 1, 2 | 4 | 256}, {1, 10, 2, 2 | 4 | 128}};
        for (int i = 0; i < want.length; i++) {
            for (int what = 0; what < 4; what++) {
                due.is("neighbor(" + i + ", " + what + ")", book.neighbor(i, what), want[i][what]);
            }
            for (int what : new int[] {-1, 4, LEAST, MOST}) {
                due.is("neighbor(" + i + ", " + what + ")", book.neighbor(i, what), NONE);
            }
        }
        for (int i : new int[] {-1, 2, 11, 12, LEAST, MOST}) {
            for (int what = 0; what < 4; what++) {
                due.is("neighbor(" + i + ", " + what + ")", book.neighbor(i, what), NONE);
            }
        }
    }

    private static void neighborsMoveUp() {
        due.begin("promise 11, the order");
        NeighborBook book = bookWithPort(0);
        for (int name = 0; name < 12; name++) {
            Bytes.hear(book, 0, Bytes.frame(name, 100));
        }
        Bytes.hear(book, 0, Bytes.frame(4, 200));
        due.is("one that is heard again keeps its place", book.content(4, 1, 1), 4);
        Bytes.hear(book, 0, Bytes.frame(4, 0));
        Bytes.hear(book, 0, Bytes.frame(0, 0));
        Bytes.hear(book, 0, Bytes.frame(4, 100));
        int[] order = {1, 2, 3, 5, 6, 7, 8, 9, 10, 11, 4};
        for (int i = 0; i < order.length; i++) {
            due.is("content(" + i + ", 1, 1)", book.content(i, 1, 1), order[i]);
        }
        due.is("count(0)", book.count(0), order.length);
        due.is("neighbor(10, 2), known anew", book.neighbor(10, 2), 1);
        due.is("neighbor(11, 0)", book.neighbor(11, 0), NONE);
    }

    private static void contents() {
        due.begin("promise 12, content");
        NeighborBook book = bookWithPort(0);
        int[] more = Bytes.join(Bytes.part(8, 200, 255), Bytes.part(4, Bytes.fill(60, 44)), Bytes.part(6),
                Bytes.part(9, 1, 2));
        Bytes.hear(book, 0, Bytes.join(Bytes.part(1, 128, 11, 12), Bytes.part(2, 20, 21), Bytes.hold(9), more,
                Bytes.END));
        int[] sizes = {NONE, 3, 2, NONE, 60, NONE, 0, NONE, 2, NONE};
        for (int type = 0; type < sizes.length; type++) {
            due.is("content(0, " + type + ", NONE)", book.content(0, type, NONE), sizes[type]);
            due.is("content(0, " + type + ", behind)", book.content(0, type, Math.max(0, sizes[type])), NONE);
            due.is("content(0, " + type + ", -2)", book.content(0, type, -2), NONE);
            due.is("content(0, " + type + ", least)", book.content(0, type, LEAST), NONE);
            due.is("content(0, " + type + ", most)", book.content(0, type, MOST), NONE);
        }
        due.is("content(0, 1, 0)", book.content(0, 1, 0), 128);
        due.is("content(0, 1, 2)", book.content(0, 1, 2), 12);
        due.is("content(0, 2, 1)", book.content(0, 2, 1), 21);
        due.is("content(0, 4, 59)", book.content(0, 4, 59), 44);
        due.is("content(0, 8, 1)", book.content(0, 8, 1), 255);
        for (int type : new int[] {-1, 127, LEAST, MOST}) {
            due.is("content(0, " + type + ", 0)", book.content(0, type, 0), NONE);
            due.is("content(0, " + type + ", NONE)", book.content(0, type, NONE), NONE);
        }
        for (int i : new int[] {-1, 1, 12, LEAST, MOST}) {
            due.is("content(" + i + ", 1, 0)", book.content(i, 1, 0), NONE);
            due.is("content(" + i + ", 1, NONE)", book.content(i, 1, NONE), NONE);
        }
    }

    private static void contentsTakePlace() {
        due.begin("promise 12, the latest frame's contents");
        NeighborBook book = bookWithPort(0);
        Bytes.hear(book, 0, Bytes.frame(1, 9, Bytes.part(4, 1, 2, 3), Bytes.part(5, 5)));
        Bytes.hear(book, 0, Bytes.frame(2, 9, Bytes.part(4, 7)));
        Bytes.hear(book, 0, Bytes.frame(1, 9, Bytes.part(4, 9), Bytes.part(6, 6)));
        due.is("content(0, 4, NONE)", book.content(0, 4, NONE), 1);
        due.is("content(0, 4, 0)", book.content(0, 4, 0), 9);
        due.is("content(0, 4, 1)", book.content(0, 4, 1), NONE);
        due.is("content(0, 5, NONE)", book.content(0, 5, NONE), NONE);
        due.is("content(0, 6, 0)", book.content(0, 6, 0), 6);
        due.is("content(1, 4, 0)", book.content(1, 4, 0), 7);
        Bytes.hear(book, 0, Bytes.frame(1, 0));
        Bytes.hear(book, 0, Bytes.frame(3, 9));
        due.is("content(0, 1, 1)", book.content(0, 1, 1), 2);
        due.is("content(0, 4, 0)", book.content(0, 4, 0), 7);
        due.is("content(1, 1, 1)", book.content(1, 1, 1), 3);
        due.is("content(1, 4, NONE)", book.content(1, 4, NONE), NONE);
    }

    private static void checks() {
        due.begin("promise 13, check");
        NeighborBook book = new NeighborBook();
        due.is("check()", book.check(), 1);
        book.port(0, 1);
        book.port(1, 1);
        for (int name = 0; name < 6; name++) {
            Bytes.hear(book, 0, Bytes.frame(name, 9));
            Bytes.hear(book, 1, Bytes.frame(name, 9));
            Bytes.hear(book, 0, Bytes.frame(name, 9));
            due.is("check()", book.check(), 1);
        }
        due.is("count(0)", book.count(0), 12);
        book.port(0, 0);
        due.is("check()", book.check(), 1);
        due.is("count(0)", book.count(0), 6);
        book.tick(9);
        due.is("check()", book.check(), 1);
    }
}
