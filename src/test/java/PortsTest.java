/** The term PORTS and promises 5 and 7 to 9: ports, their waits and quick frames, ticks and what is counted. */
public final class PortsTest {
    private static final int NONE = NeighborBook.NONE;
    private static final int LEAST = Integer.MIN_VALUE;
    private static final int MOST = Integer.MAX_VALUE;
    private static final Due due = new Due();

    private PortsTest() {
    }

    public static void main(String[] args) {
        portsAreZeroToThree();
        portsGoUpAndDown();
        settingsAtFirst();
        firstQuickFrameAtTheNextTick();
        upAgainBringsThemAnew();
        waitIsOneLessEachTick();
        leastAndMostInterval();
        newNeighborBringsQuickOnes();
        onlyWhenTheseAreMore();
        newNeighborSetsTheWait();
        onlyOneNotKnownBringsThem();
        toldSomethingElse();
        toldTheSame();
        toldBringsNoQuickOnes();
        downSendsAtOnce();
        downForgetsItsNeighbors();
        ticksOneToFiveThousand();
        manyTicksAreOneByOne();
        forgottenBeforeFramesAreSent();
        leastPortFirst();
        aboutAPort();
        aboutOthers();
        aboutNeighborsOfAPort();
        counts();
        countsOfOthers();
        latestFault();
        latestFrame();
        ticksFromZeroOn();
        due.end();
    }

    private static void isAbout(Book book, int p, int wait, int quick) {
        due.is("the wait of port " + p, book.about(p, 5), wait);
        due.is("the quick frames of port " + p, book.about(p, 6), quick);
    }

    private static void portsAreZeroToThree() {
        due.begin("PORTS, 0 to 3, are down at first");
        for (int p : new int[] {-1, 0, 1, 2, 3, 4, 5, 256, LEAST, MOST}) {
            Book book = new Book();
            boolean there = p >= 0 && p <= 3;
            due.is("port(" + p + ", 0)", book.port(p, 0), 0);
            due.is("about(" + p + ", 0)", book.about(p, 0), there ? 0 : NONE);
            due.is("port(" + p + ", 1)", book.port(p, 1), there ? 1 : 0);
            due.is("about(" + p + ", 0)", book.about(p, 0), there ? 1 : NONE);
            due.is("tick(1)", book.tick(1), there ? 1 : 0);
            due.is("port(" + p + ", 0)", book.port(p, 0), there ? 1 : 0);
            due.is("about(" + p + ", 0)", book.about(p, 0), there ? 0 : NONE);
        }
    }

    private static void portsGoUpAndDown() {
        due.begin("promise 5: up (1) or down (0); 0 when there is none such, or it is so");
        Book book = new Book();
        for (int round = 0; round < 3; round++) {
            for (int up : new int[] {-1, 2, 3, LEAST, MOST}) {
                due.is("port(2, " + up + ") of one that is down", book.port(2, up), 0);
            }
            due.is("port(2, 0) of one that is down", book.port(2, 0), 0);
            due.is("about(2, 0)", book.about(2, 0), 0);
            due.is("port(2, 1)", book.port(2, 1), 1);
            due.is("about(2, 0)", book.about(2, 0), 1);
            for (int up : new int[] {-1, 2, 3, LEAST, MOST}) {
                due.is("port(2, " + up + ") of one that is up", book.port(2, up), 0);
            }
            due.is("port(2, 1) of one that is up", book.port(2, 1), 0);
            due.is("about(2, 0)", book.about(2, 0), 1);
            due.is("about(2, 1)", book.about(2, 1), round);
            due.is("port(2, 0)", book.port(2, 0), 1);
            due.is("about(2, 1)", book.about(2, 1), round + 1);
            for (int p : new int[] {0, 1, 3}) {
                due.is("about(" + p + ", 0)", book.about(p, 0), 0);
                due.is("about(" + p + ", 1)", book.about(p, 1), 0);
            }
        }
    }

    private static void settingsAtFirst() {
        due.begin("PORTS: at first the interval is 30, the hold 4, the quick number 4");
        Book book = Book.withPorts(0);
        isAbout(book, 0, 1, 4);
        due.is("tick(4)", book.tick(4), 4);
        isAbout(book, 0, 30, 0);
        due.is("tick(29)", book.tick(29), 0);
        due.is("tick(1)", book.tick(1), 1);
        due.holds("it holds 30 times 4 and one", Bytes.isSent(book, Bytes.sentBy(0, 121)));
    }

    private static void firstQuickFrameAtTheNextTick() {
        due.begin("PORTS: as many QUICK frames as the QUICK number tells, the first one at the next tick");
        for (int quick = 1; quick <= 8; quick++) {
            Book book = new Book();
            book.set(2, quick);
            book.tick(3);
            book.port(1, 1);
            due.is("no frame yet", book.about(1, 1), 0);
            isAbout(book, 1, 1, quick);
            for (int left = quick - 1; left >= 0; left--) {
                due.is("tick(1)", book.tick(1), 1);
                isAbout(book, 1, left > 0 ? 1 : 30, left);
            }
            due.is("tick(1) behind the last", book.tick(1), 0);
            isAbout(book, 1, 29, 0);
        }
    }

    private static void upAgainBringsThemAnew() {
        due.begin("PORTS: a port that goes up again");
        Book book = Book.withPorts(0);
        book.tick(6);
        book.port(0, 0);
        due.is("tick(1) when it is down", book.tick(1), 0);
        book.set(2, 2);
        due.is("port(0, 1)", book.port(0, 1), 1);
        isAbout(book, 0, 1, 2);
        due.is("tick(1)", book.tick(1), 1);
        book.port(0, 0);
        book.port(0, 1);
        isAbout(book, 0, 1, 2);
        due.is("tick(29)", book.tick(29), 2);
        book.set(2, 8);
        book.port(0, 0);
        book.port(0, 1);
        book.set(2, 3);
        book.port(0, 0);
        book.port(0, 1);
        isAbout(book, 0, 1, 3);
    }

    private static void waitIsOneLessEachTick() {
        due.begin("PORTS: when its WAIT, one less each time, is 0, a frame is sent");
        Book book = new Book();
        book.set(0, 3);
        book.set(2, 2);
        book.port(2, 1);
        int[] frames = {1, 1, 0, 0, 1, 0, 0, 1};
        int[] waits = {1, 3, 2, 1, 3, 2, 1, 3};
        int[] quicks = {1, 0, 0, 0, 0, 0, 0, 0};
        for (int t = 0; t < frames.length; t++) {
            due.is("tick " + (t + 1), book.tick(1), frames[t]);
            isAbout(book, 2, waits[t], quicks[t]);
            isAbout(book, 0, 0, 0);
        }
    }

    private static void leastAndMostInterval() {
        due.begin("PORTS: the next wait is 1, as long as there are quick ones left, else the interval");
        Book book = new Book();
        book.set(0, 1);
        book.set(2, 1);
        book.port(0, 1);
        for (int t = 0; t < 5; t++) {
            due.is("tick(1), interval 1", book.tick(1), 1);
            isAbout(book, 0, 1, 0);
        }
        book.set(0, 3600);
        due.is("tick(3600)", book.tick(3600), 1);
        isAbout(book, 0, 1, 0);
        due.is("tick(1)", book.tick(1), 1);
        isAbout(book, 0, 3600, 0);
        due.is("tick(3599)", book.tick(3599), 0);
        isAbout(book, 0, 1, 0);
        due.is("tick(1)", book.tick(1), 1);
        due.is("tick(3600)", book.tick(3600), 1);
    }

    private static void newNeighborBringsQuickOnes() {
        due.begin("PORTS: a neighbour is heard that was not known: as many quick ones as the quick number tells");
        for (int quick = 1; quick <= 8; quick++) {
            Book book = Book.withPorts(1, 2);
            book.tick(6);
            book.set(2, quick);
            due.is("hear(2)", Bytes.hear(book, 2, Bytes.frame(1, 99)), 0);
            isAbout(book, 2, 1, quick);
            isAbout(book, 1, 28, 0);
            due.is("tick(10)", book.tick(10), quick);
        }
    }

    private static void onlyWhenTheseAreMore() {
        due.begin("PORTS: when these are more than are left");
        int[][] leftQuickThen = {{4, 3, 4}, {4, 4, 4}, {4, 5, 5}, {1, 1, 1}, {1, 2, 2}, {0, 1, 1}, {3, 1, 3}};
        for (int[] row : leftQuickThen) {
            Book book = Book.withPorts(0);
            if (row[0] < 4) {
                book.tick(4 - row[0]);
            }
            due.is("left", book.about(0, 6), row[0]);
            book.set(2, row[1]);
            Bytes.hear(book, 0, Bytes.frame(1, 99));
            due.is("quick number " + row[1] + " with " + row[0] + " left", book.about(0, 6), row[2]);
            Bytes.hear(book, 0, Bytes.frame(2, 99));
            due.is("they are not added up", book.about(0, 6), row[2]);
        }
    }

    private static void newNeighborSetsTheWait() {
        due.begin("PORTS: and the wait is 1");
        for (int passed : new int[] {4, 5, 20, 32, 33}) {
            Book book = Book.withPorts(0);
            book.tick(passed);
            isAbout(book, 0, 34 - passed, 0);
            Bytes.hear(book, 0, Bytes.frame(1, 99));
            isAbout(book, 0, 1, 4);
            due.is("tick(1)", book.tick(1), 1);
        }
    }

    private static void onlyOneNotKnownBringsThem() {
        due.begin("PORTS: that was not known");
        Book book = Book.withPorts(0, 1);
        Bytes.hear(book, 0, Bytes.frame(1, 10));
        book.tick(6);
        isAbout(book, 0, 28, 0);
        Bytes.hear(book, 0, Bytes.frame(1, 10, Bytes.part(4, 4)));
        isAbout(book, 0, 28, 0);
        Bytes.hear(book, 1, Bytes.frame(1, 10));
        isAbout(book, 0, 28, 0);
        isAbout(book, 1, 1, 4);
        book.tick(10);
        due.is("all are forgotten", book.count(0), 0);
        isAbout(book, 0, 18, 0);
        Bytes.hear(book, 0, Bytes.frame(1, 10));
        isAbout(book, 0, 1, 4);
        book.tick(4);
        Bytes.hear(book, 0, Bytes.frame(1, 0));
        isAbout(book, 0, 30, 0);
        Bytes.hear(book, 0, Bytes.frame(1, 1));
        isAbout(book, 0, 1, 4);
    }

    private static void toldSomethingElse() {
        due.begin("PORTS: when the station is told something else, the wait of all ports is 1");
        for (int type : new int[] {1, 2, 4, 5, 6, 7, 8}) {
            Book book = Book.withPorts(0, 1, 2, 3);
            book.tick(4);
            book.port(2, 0);
            int[][] news = {{1, 1}, {1, 2}, {2, 2}, {2, 2, 0}, {2, 2}, {}};
            for (int[] bytes : news) {
                if (bytes.length > 0 || type >= 4) {
                    due.is("the wait before", book.about(0, 5), 30);
                    due.is("tell(" + type + ")", Bytes.tell(book, type, bytes), 1);
                    for (int p = 0; p < 4; p++) {
                        isAbout(book, p, p == 2 ? 0 : 1, 0);
                    }
                    due.is("tick(1)", book.tick(1), 3);
                }
            }
        }
    }

    private static void toldTheSame() {
        due.begin("PORTS: told what is told already is not something else");
        Book book = Book.withPorts(0);
        book.tick(4);
        due.is("tell(1), as at first", Bytes.tell(book, 1, 0, 0), 1);
        isAbout(book, 0, 30, 0);
        due.is("tell(2), as at first", Bytes.tell(book, 2, 0, 0), 1);
        isAbout(book, 0, 30, 0);
        due.is("tell(5) of none, which was not there", book.tell(5), 1);
        isAbout(book, 0, 30, 0);
        Bytes.tell(book, 5, 1, 2, 3);
        Bytes.tell(book, 5, 1);
        Bytes.tell(book, 6, 9, 9);
        book.tick(1);
        due.is("tell(5), the same behind longer ones", Bytes.tell(book, 5, 1), 1);
        isAbout(book, 0, 30, 0);
    }

    private static void toldBringsNoQuickOnes() {
        due.begin("PORTS: told something else, the quick frames stay");
        Book book = Book.withPorts(0);
        book.tick(2);
        Bytes.tell(book, 5, 1);
        isAbout(book, 0, 1, 2);
        due.is("tick(9)", book.tick(9), 2);
        isAbout(book, 0, 23, 0);
        Bytes.tell(book, 5, 2);
        due.is("tick(1)", book.tick(1), 1);
        isAbout(book, 0, 30, 0);
    }

    private static void downSendsAtOnce() {
        due.begin("PORTS: a port that goes down sends a frame that holds 0 at once");
        for (int p = 0; p < 4; p++) {
            Book book = Book.withPorts(0, 1, 2, 3);
            Bytes.tell(book, 6, 66);
            due.is("port(" + p + ", 0)", book.port(p, 0), 1);
            due.holds("the frame", Bytes.isSent(book, Bytes.sentBy(p, 0, Bytes.part(6, 66))));
            due.is("count(4)", book.count(4), p);
            due.is("count(1)", book.count(1), 0);
            due.is("about(" + p + ", 1)", book.about(p, 1), 1);
            due.is("the wait", book.about(p, 5), 0);
            // The document tells of the wait alone that it is 0 then.
            due.is("the quick frames left", book.about(p, 6), 4);
            due.is("tick(1)", book.tick(1), 3);
            due.is("about(" + p + ", 1)", book.about(p, 1), 1);
        }
    }

    private static void downForgetsItsNeighbors() {
        due.begin("PORTS: and forgets its neighbours");
        for (int p = 0; p < 4; p++) {
            Book book = Book.withPorts(0, 1, 2, 3);
            for (int name = 0; name < 12; name++) {
                Bytes.hear(book, name * 3 % 4, Bytes.frame(name, 50));
            }
            book.port(p, 0);
            due.is("count(0)", book.count(0), 9);
            due.is("about(" + p + ", 4)", book.about(p, 4), 0);
            due.is("check()", book.check(), 1);
            int i = 0;
            for (int name = 0; name < 12; name++) {
                if (name * 3 % 4 != p) {
                    due.is("who is neighbour " + i, book.content(i, 1, 1), name);
                    due.is("neighbor(" + i + ", 0)", book.neighbor(i, 0), name * 3 % 4);
                    i++;
                }
            }
            book.port(p, 1);
            due.is("count(0) when it is up again", book.count(0), 9);
            due.is("one of them is new again", Bytes.hear(book, p, Bytes.frame(p * 3 % 4, 50)), 0);
            due.is("neighbor(9, 2)", book.neighbor(9, 2), 1);
        }
    }

    private static void ticksOneToFiveThousand() {
        due.begin("promise 7: how many frames were sent; NONE, and none passes, when they are not 1 .. 5000");
        for (int n : new int[] {0, 1, 2, 4999, 5000, 5001, -1, 65537, LEAST, MOST}) {
            Book book = Book.withPorts(0);
            boolean good = n >= 1 && n <= 5000;
            int frames = n < 4 ? n : 4 + (n - 4) / 30;
            due.is("tick(" + n + ")", book.tick(n), good ? frames : NONE);
            due.is("count(1)", book.count(1), good ? n : 0);
            due.is("about(0, 1)", book.about(0, 1), good ? frames : 0);
        }
        Book book = new Book();
        book.set(0, 1);
        for (int p = 0; p < 4; p++) {
            book.port(p, 1);
        }
        due.is("tick(5000) with as many frames as can be", book.tick(5000), 20000);
        due.is("tick(5000) again", book.tick(5000), 20000);
        due.is("count(1)", book.count(1), 10000);
    }

    private static void manyTicksAreOneByOne() {
        due.begin("promise 7: so many ticks pass, one by one");
        for (int n : new int[] {2, 7, 33, 64, 200}) {
            Book many = Book.withPorts(0, 3);
            Book single = Book.withPorts(0, 3);
            Bytes.hear(many, 3, Bytes.frame(1, 33));
            Bytes.hear(single, 3, Bytes.frame(1, 33));
            int frames = 0;
            for (int t = 0; t < n; t++) {
                frames += single.tick(1);
            }
            due.is("tick(" + n + ")", many.tick(n), frames);
            due.is("count(0)", many.count(0), single.count(0));
            due.is("count(1)", many.count(1), n);
            due.is("count(4)", many.count(4), single.count(4));
            due.is("about(3, 5)", many.about(3, 5), single.about(3, 5));
        }
    }

    private static void forgottenBeforeFramesAreSent() {
        due.begin("promise 7: in each first what is over is forgotten, then frames are sent");
        Book book = Book.withPorts(0);
        Bytes.hear(book, 0, Bytes.frame(1, 1));
        due.is("tick(1)", book.tick(1), 1);
        due.is("count(0)", book.count(0), 0);
        due.is("the quick frames are those of the port", book.about(0, 6), 3);
        for (int name = 1; name <= 12; name++) {
            Bytes.hear(book, 0, Bytes.frame(name, name % 2 == 0 ? 2 : 9));
        }
        book.tick(1);
        due.is("count(0)", book.count(0), 12);
        book.tick(1);
        due.is("all that are over in one tick", book.count(0), 6);
        for (int i = 0; i < 6; i++) {
            due.is("who is neighbour " + i, book.content(i, 1, 1), 2 * i + 1);
            due.is("neighbor(" + i + ", 1)", book.neighbor(i, 1), 7);
        }
    }

    private static void leastPortFirst() {
        due.begin("promise 7: the least port first");
        for (int last = 1; last < 4; last++) {
            Book book = Book.withPorts(last, 0);
            due.is("tick(1)", book.tick(1), 2);
            due.is("the greatest port's frame is the latest", book.count(4), last);
            due.is("sent(8)", book.sent(8), last);
        }
    }

    private static void aboutAPort() {
        due.begin("promise 8: about");
        Book book = Book.withPorts(1);
        Bytes.hear(book, 1, Bytes.frame(1, 99));
        Bytes.hear(book, 1, Bytes.frame(2, 99));
        Bytes.hear(book, 1, Bytes.frame(1, 99));
        Bytes.hear(book, 1, 2);
        book.hear(2);
        book.tick(2);
        int[] want = {1, 2, 3, 1, 2, 1, 2};
        for (int what = 0; what < want.length; what++) {
            due.is("about(1, " + what + ")", book.about(1, what), want[what]);
            due.is("about(2, " + what + ")", book.about(2, what), 0);
        }
        book.port(1, 0);
        int[] down = {0, 3, 3, 1, 0, 0};
        for (int what = 0; what < down.length; what++) {
            due.is("about(1, " + what + ") when down", book.about(1, what), down[what]);
        }
        book.port(1, 1);
        Bytes.hear(book, 1, Bytes.frame(1, 99));
        book.tick(1);
        int[] again = {1, 4, 4, 1, 1, 1, 3};
        for (int what = 0; what < again.length; what++) {
            due.is("about(1, " + what + ") when up again", book.about(1, what), again[what]);
        }
    }

    private static void aboutOthers() {
        due.begin("promise 8: NONE for others");
        Book book = Book.withPorts(0, 3);
        book.tick(1);
        for (int p = 0; p < 4; p++) {
            for (int what : new int[] {-1, 7, 8, 256, LEAST, MOST}) {
                due.is("about(" + p + ", " + what + ")", book.about(p, what), NONE);
            }
            for (int what = 0; what <= 6; what++) {
                due.holds("about(" + p + ", " + what + ") is there", book.about(p, what) >= 0);
            }
        }
        for (int p : new int[] {-1, 4, 5, 256, LEAST, MOST}) {
            for (int what = -1; what <= 7; what++) {
                due.is("about(" + p + ", " + what + ")", book.about(p, what), NONE);
            }
        }
    }

    private static void aboutNeighborsOfAPort() {
        due.begin("promise 8: neighbours it has (4)");
        Book book = Book.withPorts(0, 1);
        for (int name = 1; name <= 12; name++) {
            Bytes.hear(book, 0, Bytes.frame(name, name));
            due.is("about(0, 4)", book.about(0, 4), name);
        }
        due.is("about(1, 4)", book.about(1, 4), 0);
        for (int t = 1; t <= 12; t++) {
            book.tick(1);
            due.is("about(0, 4) behind tick " + t, book.about(0, 4), 12 - t);
        }
    }

    private static void counts() {
        due.begin("promise 9: count");
        Book book = Book.withPorts(2);
        Bytes.tell(book, 5, 1, 2, 3);
        book.tick(7);
        Bytes.hear(book, 2, Bytes.frame(1, 9));
        Bytes.hear(book, 2, 2, 1);
        Bytes.typeInto(book, 1, 2, 3);
        int[] want = {1, 7, 3, 3, 2, 20};
        for (int what = 0; what < want.length; what++) {
            due.is("count(" + what + ")", book.count(what), want[what]);
        }
    }

    private static void countsOfOthers() {
        due.begin("promise 9: NONE for others");
        for (Book book : new Book[] {new Book(), Book.withPorts(0, 1)}) {
            book.tick(1);
            for (int what : new int[] {-1, 6, 7, 256, LEAST, MOST}) {
                due.is("count(" + what + ")", book.count(what), NONE);
            }
            for (int what : new int[] {0, 1, 2, 3, 5}) {
                due.holds("count(" + what + ") is there", book.count(what) >= 0);
            }
        }
    }

    private static void latestFault() {
        due.begin("promise 9: the latest fault of hear() (2)");
        Book book = Book.withPorts(0);
        due.is("at first", book.count(2), 0);
        int[][] frames = {{}, {0, 0}, {2, 0}, Bytes.frame(1, 9, Bytes.part(4), Bytes.part(4)), Bytes.frame(1, 9)};
        int[] faults = {1, 2, 3, 4, 0};
        for (int round = 0; round < 2; round++) {
            for (int i = 0; i < frames.length; i++) {
                due.is("hear(0)", Bytes.hear(book, 0, frames[i]), faults[i]);
                due.is("count(2)", book.count(2), faults[i]);
                due.is("hear(1), which is down", book.hear(1), NONE);
                due.is("count(2) stays", book.count(2), faults[i]);
            }
        }
    }

    private static void latestFrame() {
        due.begin("promise 9: the latest one's port (4; NONE at first) and its length (5; 0 at first)");
        Book book = new Book();
        due.is("count(4) at first", book.count(4), NONE);
        due.is("count(5) at first", book.count(5), 0);
        book.tick(5000);
        book.port(0, 1);
        due.is("count(4), up and no tick yet", book.count(4), NONE);
        due.is("count(5), up and no tick yet", book.count(5), 0);
        book.tick(1);
        due.is("count(4)", book.count(4), 0);
        due.is("count(5)", book.count(5), 15);
        book.port(3, 1);
        Bytes.tell(book, 4, 1);
        book.port(3, 0);
        due.is("count(4), a port that went down", book.count(4), 3);
        due.is("count(5), a port that went down", book.count(5), 18);
    }

    private static void ticksFromZeroOn() {
        due.begin("promise 9: ticks that have passed (1; over 2147483647 from 0 on)");
        Book most = new Book();
        for (int call = 1; call <= 500; call++) {
            most.tick(5000);
        }
        due.is("count(1), as far as calls come", most.count(1), 2500000);
        // 512 calls are far from the boundary, so the object is put in front of it.
        int[][] rows = {{MOST - 1, 1, MOST}, {MOST, 1, 0}, {MOST, 2, 1}, {MOST - 1, 2, 0}, {MOST - 4999, 5000, 0},
            {MOST - 5000, 5000, MOST}, {MOST, 5000, 4999}};
        for (int[] row : rows) {
            Book book = new Book();
            if (book.putInside("ticks", row[0])) {
                book.tick(row[1]);
                due.is("count(1), " + row[1] + " behind " + row[0], book.count(1), row[2]);
            }
        }
    }
}
