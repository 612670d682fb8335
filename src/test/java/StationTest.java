/** Promises 1 to 5, 7, 8 and 10: typing, what the station is told, its ports and the frames it sends. */
public final class StationTest {
    private static final int NONE = NeighborBook.NONE;
    private static final int LEAST = Integer.MIN_VALUE;
    private static final int MOST = Integer.MAX_VALUE;
    private static final Due due = new Due();

    private StationTest() {
    }

    public static void main(String[] args) {
        newObject();
        typing();
        typingFull();
        telling();
        tellingSizes();
        tellingWhatIsNotTold();
        tellingHurries();
        setting();
        settingHoldsFromTheNextFrame();
        portsGoUpAndDown();
        portsThatAreNone();
        downFrame();
        ticks();
        ticksOneByOne();
        ticksForgetFirst();
        aboutPorts();
        wholeFrame();
        longestFrame();
        due.end();
    }

    private static NeighborBook bookWithPort(int p) {
        NeighborBook book = new NeighborBook();
        book.port(p, 1);
        return book;
    }

    private static void newObject() {
        due.begin("promise 1, a new object");
        NeighborBook book = new NeighborBook();
        for (int p = 0; p < 4; p++) {
            for (int what = 0; what <= 6; what++) {
                due.is("about(" + p + ", " + what + ")", book.about(p, what), 0);
            }
        }
        due.is("count(0)", book.count(0), 0);
        due.is("count(1)", book.count(1), 0);
        due.is("count(2)", book.count(2), 0);
        due.is("count(3)", book.count(3), 0);
        due.is("count(4)", book.count(4), NONE);
        due.is("count(5)", book.count(5), 0);
        due.is("sent(0)", book.sent(0), NONE);
        due.is("check()", book.check(), 1);
        book.port(1, 1);
        book.tick(1);
        NeighborBook other = new NeighborBook();
        due.is("another object's about(1, 0)", other.about(1, 0), 0);
        due.is("another object's count(1)", other.count(1), 0);
    }

    private static void typing() {
        due.begin("promise 2, type");
        NeighborBook book = bookWithPort(0);
        due.is("type(.., 3)", book.type(0x1122334455AABBCCL, 3), 3);
        due.is("count(3)", book.count(3), 3);
        book.tell(4);
        due.is("type of all eight", book.type(0x8182838485868788L, 8), 8);
        book.tell(5);
        due.is("type(-1, 1)", book.type(-1L, 1), 1);
        due.is("type(0x0102, 2)", book.type(0x0102L, 2), 3);
        book.tell(6);
        book.tick(1);
        int[] more = Bytes.join(Bytes.part(4, 0xAA, 0xBB, 0xCC),
                Bytes.part(5, 0x81, 0x82, 0x83, 0x84, 0x85, 0x86, 0x87, 0x88),
                Bytes.part(6, 0xFF, 1, 2));
        due.holds("the typed bytes are told, highest first", Bytes.isSent(book, Bytes.join(
                Bytes.part(1, 0, 0), Bytes.part(2, 0, 0, 0), Bytes.hold(121), more, Bytes.END)));
        for (int n : new int[] {0, -1, 9, LEAST, MOST}) {
            due.is("type(1, " + n + ")", book.type(1L, n), NONE);
        }
        due.is("count(3)", book.count(3), 0);
    }

    private static void typingFull() {
        due.begin("promise 2, type up to 700");
        NeighborBook book = new NeighborBook();
        for (int i = 1; i <= 87; i++) {
            due.is("type(.., 8)", book.type(i, 8), 8 * i);
        }
        due.is("type(.., 5) to 701", book.type(0, 5), NONE);
        due.is("type(.., 8) to 704", book.type(0, 8), NONE);
        due.is("count(3)", book.count(3), 696);
        due.is("type(.., 4) to 700", book.type(0, 4), 700);
        due.is("type(.., 1) to 701", book.type(0, 1), NONE);
        due.is("tell(4) of 700", book.tell(4), 0);
        due.is("count(3)", book.count(3), 700);
        book.port(0, 1);
        due.is("hear(0) of 700", book.hear(0), 2);
        due.is("type(.., 1)", book.type(0, 1), 1);
    }

    private static void telling() {
        due.begin("promise 3, tell");
        NeighborBook book = bookWithPort(2);
        due.is("tell(1)", Bytes.tell(book, 1, 10, 11), 1);
        due.is("count(3)", book.count(3), 0);
        due.is("tell(2)", Bytes.tell(book, 2, 20, 21, 22), 1);
        due.is("tell(8)", Bytes.tell(book, 8, 80), 1);
        due.is("tell(4)", Bytes.tell(book, 4, 40), 1);
        book.tick(1);
        due.holds("the frame has all", Bytes.isSent(book, Bytes.join(Bytes.part(1, 10, 11),
                Bytes.part(2, 20, 21, 22, 2), Bytes.hold(121), Bytes.part(4, 40), Bytes.part(8, 80),
                Bytes.END)));
        due.is("tell(4) of none", book.tell(4), 1);
        due.is("tell(8)", Bytes.tell(book, 8, 81, 82), 1);
        book.tick(1);
        due.holds("type 4 is gone, 8 is another", Bytes.isSent(book, Bytes.join(Bytes.part(1, 10, 11),
                Bytes.part(2, 20, 21, 22, 2), Bytes.hold(121), Bytes.part(8, 81, 82), Bytes.END)));
    }

    private static void tellingSizes() {
        due.begin("promise 3, tell's sizes");
        for (int what = 1; what <= 8; what++) {
            if (what == 3) {
                continue;
            }
            boolean name = what < 3;
            for (int size : new int[] {0, 1, 2, 59, 60, 61}) {
                NeighborBook book = new NeighborBook();
                boolean good = name ? size >= 2 && size <= 59 : size <= 60;
                String call = "tell(" + what + ") of " + size;
                due.is(call, Bytes.tell(book, what, Bytes.fill(size, 7)), good ? 1 : 0);
                due.is("count(3) after " + call, book.count(3), good ? 0 : size);
            }
        }
    }

    private static void tellingWhatIsNotTold() {
        due.begin("promise 3, tell of other types");
        NeighborBook book = bookWithPort(0);
        book.tick(4);
        for (int what : new int[] {0, 3, 9, -1, 127, LEAST, MOST}) {
            due.is("tell(" + what + ") of none", book.tell(what), 0);
        }
        Bytes.typeInto(book, 1, 2, 3);
        for (int what : new int[] {0, 3, 9, -1, 127, LEAST, MOST}) {
            due.is("tell(" + what + ")", book.tell(what), 0);
        }
        due.is("count(3)", book.count(3), 3);
        due.is("the wait", book.about(0, 5), 30);
    }

    private static void tellingHurries() {
        due.begin("promise 3, told something else");
        NeighborBook book = bookWithPort(0);
        book.port(3, 1);
        book.tick(4);
        due.is("the wait", book.about(0, 5), 30);
        Bytes.tell(book, 1, 0, 0);
        due.is("the wait, told the same who", book.about(0, 5), 30);
        book.tell(5);
        due.is("the wait, type 5 taken away that was not there", book.about(0, 5), 30);
        Bytes.tell(book, 5, 1);
        due.is("the wait of port 0, told type 5", book.about(0, 5), 1);
        due.is("the wait of port 3, told type 5", book.about(3, 5), 1);
        due.is("the wait of port 1, which is down", book.about(1, 5), 0);
        due.is("no quick frames come of it", book.about(0, 6), 0);
        due.is("tick(1)", book.tick(1), 2);
        due.is("the wait behind it", book.about(0, 5), 30);
        Bytes.tell(book, 5, 1);
        due.is("the wait, told the same type 5", book.about(0, 5), 30);
        Bytes.tell(book, 5, 1, 0);
        due.is("the wait, told a longer type 5", book.about(0, 5), 1);
        book.tick(1);
        Bytes.tell(book, 5, 1);
        due.is("the wait, told a shorter type 5", book.about(0, 5), 1);
        Bytes.tell(book, 6, 7, 7);
        book.tick(1);
        Bytes.tell(book, 5, 1);
        due.is("the wait, told the same behind longer ones", book.about(0, 5), 30);
        Bytes.tell(book, 5, 2);
        due.is("the wait, told another type 5", book.about(0, 5), 1);
        book.tick(1);
        book.tell(5);
        due.is("the wait, type 5 taken away", book.about(0, 5), 1);
    }

    private static void setting() {
        due.begin("promise 4, set");
        NeighborBook book = new NeighborBook();
        int[] least = {1, 2, 1};
        int[] most = {3600, 10, 8};
        for (int what = 0; what < 3; what++) {
            due.is("set(" + what + ", least)", book.set(what, least[what]), 1);
            due.is("set(" + what + ", most)", book.set(what, most[what]), 1);
            for (int v : new int[] {least[what] - 1, most[what] + 1, -1, LEAST, MOST}) {
                due.is("set(" + what + ", " + v + ")", book.set(what, v), 0);
            }
        }
        for (int what : new int[] {-1, 3, LEAST, MOST}) {
            due.is("set(" + what + ", 5)", book.set(what, 5), 0);
        }
        book.port(0, 1);
        due.is("quick frames of the most", book.about(0, 6), 8);
        book.tick(8);
        due.is("the wait of the most", book.about(0, 5), 3600);
        due.holds("it holds the most", Bytes.isSent(book, Bytes.join(Bytes.part(1, 0, 0),
                Bytes.part(2, 0, 0, 0), Bytes.hold(36001), Bytes.END)));
    }

    private static void settingHoldsFromTheNextFrame() {
        due.begin("promise 4, from the next frame on");
        NeighborBook book = bookWithPort(0);
        book.set(2, 7);
        due.is("quick frames left", book.about(0, 6), 4);
        book.tick(4);
        book.set(0, 3);
        book.set(1, 2);
        due.is("the wait", book.about(0, 5), 30);
        due.is("sent(12) still the old hold", book.sent(12), 121);
        due.is("tick(29)", book.tick(29), 0);
        due.is("tick(1)", book.tick(1), 1);
        due.is("the wait", book.about(0, 5), 3);
        due.is("sent(12)", book.sent(12), 7);
        due.is("tick(9)", book.tick(9), 3);
        Bytes.hear(book, 0, Bytes.frame(1, 9));
        due.is("quick frames left behind a new neighbour", book.about(0, 6), 7);
    }

    private static void portsGoUpAndDown() {
        due.begin("promise 5, port");
        NeighborBook book = new NeighborBook();
        for (int p = 0; p < 4; p++) {
            due.is("port(p, 0) of one that is down", book.port(p, 0), 0);
            due.is("port(p, 1)", book.port(p, 1), 1);
            due.is("about(p, 0)", book.about(p, 0), 1);
            due.is("about(p, 5)", book.about(p, 5), 1);
            due.is("about(p, 6)", book.about(p, 6), 4);
            due.is("port(p, 1) of one that is up", book.port(p, 1), 0);
        }
        book.tick(6);
        due.is("port(2, 1) of one that is up", book.port(2, 1), 0);
        due.is("its wait stays", book.about(2, 5), 28);
        due.is("its quick frames stay", book.about(2, 6), 0);
        due.is("port(2, 0)", book.port(2, 0), 1);
        due.is("about(2, 0)", book.about(2, 0), 0);
        due.is("about(2, 5)", book.about(2, 5), 0);
        due.is("about(1, 0)", book.about(1, 0), 1);
        due.is("port(2, 0) once more", book.port(2, 0), 0);
        due.is("about(2, 1)", book.about(2, 1), 5);
        due.is("port(2, 1)", book.port(2, 1), 1);
        due.is("about(2, 5)", book.about(2, 5), 1);
        due.is("about(2, 6)", book.about(2, 6), 4);
        due.is("tick(1)", book.tick(1), 1);
    }

    private static void portsThatAreNone() {
        due.begin("promise 5, no such port");
        NeighborBook book = new NeighborBook();
        for (int p : new int[] {-1, 4, LEAST, MOST}) {
            due.is("port(" + p + ", 1)", book.port(p, 1), 0);
            due.is("port(" + p + ", 0)", book.port(p, 0), 0);
        }
        for (int up : new int[] {-1, 2, LEAST, MOST}) {
            due.is("port(0, " + up + ")", book.port(0, up), 0);
        }
        due.is("about(0, 0)", book.about(0, 0), 0);
        book.port(0, 1);
        for (int up : new int[] {-1, 2, LEAST, MOST}) {
            due.is("port(0, " + up + ") of one that is up", book.port(0, up), 0);
        }
        due.is("about(0, 0)", book.about(0, 0), 1);
        due.is("count(4)", book.count(4), NONE);
    }

    private static void downFrame() {
        due.begin("promise 5, a port that goes down");
        NeighborBook book = bookWithPort(1);
        book.port(3, 1);
        Bytes.tell(book, 6, 66);
        Bytes.hear(book, 3, Bytes.frame(1, 50));
        Bytes.hear(book, 1, Bytes.frame(2, 50));
        Bytes.hear(book, 3, Bytes.frame(3, 50));
        Bytes.hear(book, 1, Bytes.frame(4, 50));
        book.port(3, 0);
        due.holds("the frame holds 0 and has all else", Bytes.isSent(book, Bytes.join(
                Bytes.part(1, 0, 0), Bytes.part(2, 0, 0, 3), Bytes.hold(0), Bytes.part(6, 66),
                Bytes.END)));
        due.is("count(4)", book.count(4), 3);
        due.is("about(3, 1)", book.about(3, 1), 1);
        due.is("count(1)", book.count(1), 0);
        due.is("count(0)", book.count(0), 2);
        due.is("about(3, 4)", book.about(3, 4), 0);
        due.is("about(1, 4)", book.about(1, 4), 2);
        due.is("content(0, 1, 1)", book.content(0, 1, 1), 2);
        due.is("content(1, 1, 1)", book.content(1, 1, 1), 4);
        due.is("check()", book.check(), 1);
        due.is("the quick frames that were left", book.about(3, 6), 4);
        due.is("tick(1)", book.tick(1), 1);
        book.port(3, 1);
        due.is("count(0) when it is up again", book.count(0), 2);
    }

    private static void ticks() {
        due.begin("promise 7, tick");
        NeighborBook book = bookWithPort(0);
        for (int n : new int[] {0, -1, 5001, LEAST, MOST}) {
            due.is("tick(" + n + ")", book.tick(n), NONE);
        }
        due.is("count(1)", book.count(1), 0);
        due.is("tick(1)", book.tick(1), 1);
        due.is("count(1)", book.count(1), 1);
        due.is("tick(5000)", book.tick(5000), 3 + (5001 - 4) / 30);
        due.is("count(1)", book.count(1), 5001);
        book.set(0, 1);
        book.port(1, 1);
        book.tick(30);
        due.is("tick(5000) of interval 1", book.tick(5000), 10000);
        due.is("the latest frame's port", book.count(4), 1);
        due.is("its hold", book.sent(12), 5);
    }

    private static void ticksOneByOne() {
        due.begin("promise 7, when frames are sent");
        NeighborBook book = new NeighborBook();
        book.set(0, 3);
        book.set(2, 2);
        book.port(2, 1);
        int[] sentIn = {1, 1, 0, 0, 1, 0, 0, 1};
        int[] waits = {1, 3, 2, 1, 3, 2, 1, 3};
        int[] quicks = {1, 0, 0, 0, 0, 0, 0, 0};
        for (int t = 0; t < sentIn.length; t++) {
            due.is("tick " + (t + 1), book.tick(1), sentIn[t]);
            due.is("wait behind tick " + (t + 1), book.about(2, 5), waits[t]);
            due.is("quick frames behind tick " + (t + 1), book.about(2, 6), quicks[t]);
        }
        book.port(0, 1);
        due.is("tick(1)", book.tick(1), 1);
        due.is("count(4)", book.count(4), 0);
        due.is("tick(2), the second of two ports is the latest", book.tick(2), 2);
        due.is("count(4)", book.count(4), 2);
    }

    private static void ticksForgetFirst() {
        due.begin("promise 7, what is over is forgotten");
        NeighborBook book = bookWithPort(0);
        Bytes.hear(book, 0, Bytes.frame(1, 1));
        Bytes.hear(book, 0, Bytes.frame(2, 3));
        Bytes.hear(book, 0, Bytes.frame(3, 2));
        Bytes.hear(book, 0, Bytes.frame(4, 3));
        book.tick(1);
        due.is("count(0)", book.count(0), 3);
        due.is("the first of them", book.content(0, 1, 1), 2);
        due.is("its ticks", book.neighbor(0, 1), 2);
        book.tick(1);
        due.is("count(0)", book.count(0), 2);
        due.is("the second of them", book.content(1, 1, 1), 4);
        book.tick(1);
        due.is("count(0)", book.count(0), 0);
        Bytes.hear(book, 0, Bytes.frame(1, 5000));
        book.tick(4999);
        due.is("neighbor(0, 1)", book.neighbor(0, 1), 1);
        book.tick(1);
        due.is("count(0)", book.count(0), 0);
    }

    private static void aboutPorts() {
        due.begin("promise 8, about");
        NeighborBook book = bookWithPort(1);
        Bytes.hear(book, 1, Bytes.frame(1, 99));
        Bytes.hear(book, 1, Bytes.frame(2, 99));
        Bytes.hear(book, 1, Bytes.frame(1, 99));
        Bytes.hear(book, 1, 2);
        book.hear(2);
        book.tick(2);
        int[] want = {1, 2, 3, 1, 2, 1, 2};
        for (int what = 0; what < want.length; what++) {
            due.is("about(1, " + what + ")", book.about(1, what), want[what]);
            due.is("about(2, " + what + ")", book.about(2, what), 0);
        }
        for (int other : new int[] {-1, 7, LEAST, MOST}) {
            due.is("about(1, " + other + ")", book.about(1, other), NONE);
        }
        for (int other : new int[] {-1, 4, LEAST, MOST}) {
            due.is("about(" + other + ", 0)", book.about(other, 0), NONE);
            due.is("about(" + other + ", 4)", book.about(other, 4), NONE);
        }
        book.port(1, 0);
        int[] down = {0, 3, 3, 1, 0, 0};
        for (int what = 0; what < down.length; what++) {
            due.is("about(1, " + what + ") when down", book.about(1, what), down[what]);
        }
    }

    private static void wholeFrame() {
        due.begin("promise 10, sent");
        NeighborBook book = bookWithPort(3);
        due.is("sent(0) before there was one", book.sent(0), NONE);
        book.tick(1);
        due.holds("the first frame", Bytes.isSent(book, 2, 2, 0, 0, 4, 3, 0, 0, 3, 6, 2, 0, 121, 0, 0));
        for (int k : new int[] {-1, 15, 438, 439, LEAST, MOST}) {
            due.is("sent(" + k + ")", book.sent(k), NONE);
        }
        Bytes.tell(book, 1, 255, 128);
        due.is("sent(2) before the next frame", book.sent(2), 0);
        book.tick(1);
        due.is("sent(2)", book.sent(2), 255);
        due.is("sent(3)", book.sent(3), 128);
    }

    private static void longestFrame() {
        due.begin("promise 10, the longest frame");
        NeighborBook book = bookWithPort(3);
        int[] frame = Bytes.join(Bytes.part(1, Bytes.fill(59, 1)),
                Bytes.part(2, Bytes.join(Bytes.fill(59, 2), Bytes.of(3))), Bytes.hold(121));
        Bytes.tell(book, 1, Bytes.fill(59, 1));
        Bytes.tell(book, 2, Bytes.fill(59, 2));
        for (int type = 8; type >= 4; type--) {
            Bytes.tell(book, type, Bytes.fill(60, type));
        }
        for (int type = 4; type <= 8; type++) {
            frame = Bytes.join(frame, Bytes.part(type, Bytes.fill(60, type)));
        }
        book.tick(1);
        due.holds("all of it", Bytes.isSent(book, Bytes.join(frame, Bytes.END)));
        due.is("count(5)", book.count(5), 439);
        book.tell(4);
        book.tell(8);
        book.tick(1);
        due.is("count(5) of a shorter one", book.count(5), 439 - 124);
        due.is("sent(315)", book.sent(315), NONE);
    }
}
