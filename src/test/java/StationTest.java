/** The term THE STATION and promises 1 to 4 and 10: what is typed, told and set, and the frame of it. */
public final class StationTest {
    private static final int NONE = NeighborBook.NONE;
    private static final int LEAST = Integer.MIN_VALUE;
    private static final int MOST = Integer.MAX_VALUE;
    private static final Due due = new Due();

    private StationTest() {
    }

    public static void main(String[] args) {
        newObject();
        newObjectsShareNothing();
        typesTheLowestBytes();
        typesOneToEight();
        typesUpToSevenHundred();
        typesAgainBehindTheMost();
        tells();
        tellsWhoAndPortOfTwoToFiftyNine();
        tellsMoreOfUpToSixty();
        tellsNoneAtAllTakesAway();
        tellsWhatIsNotTold();
        setsTheInterval();
        setsTheHold();
        setsTheQuickNumber();
        setsWhatIsNone();
        setHoldsFromTheNextFrameOn();
        setHoldsFromTheNextNeighborOn();
        contentsAtFirst();
        portNumberIsPutBehind();
        partsInTheirOrder();
        longestFrame();
        holdsIntervalTimesHoldAndOne();
        holdsAtMost();
        sentBytes();
        sentIsTheLatest();
        due.end();
    }

    private static void newObject() {
        due.begin("promise 1: all ports down, no neighbours");
        Book book = new Book();
        for (int p = 0; p < 4; p++) {
            for (int what = 0; what <= 6; what++) {
                due.is("about(" + p + ", " + what + ")", book.about(p, what), 0);
            }
        }
        int[] counts = {0, 0, 0, 0, NONE, 0};
        for (int what = 0; what < counts.length; what++) {
            due.is("count(" + what + ")", book.count(what), counts[what]);
        }
        due.is("sent(0)", book.sent(0), NONE);
        due.is("neighbor(0, 0)", book.neighbor(0, 0), NONE);
        due.is("content(0, 1, NONE)", book.content(0, 1, NONE), NONE);
        due.is("check()", book.check(), 1);
        due.is("tick(1), all are down", book.tick(1), 0);
    }

    private static void newObjectsShareNothing() {
        due.begin("promise 1: a new object next to one in use");
        Book used = Book.withPorts(1);
        used.set(0, 5);
        Bytes.tell(used, 1, 7, 7);
        Bytes.hear(used, 1, Bytes.frame(1, 9));
        used.tick(1);
        used.type(3, 1);
        Book book = new Book();
        due.is("about(1, 0)", book.about(1, 0), 0);
        due.is("count(0)", book.count(0), 0);
        due.is("count(1)", book.count(1), 0);
        due.is("count(3)", book.count(3), 0);
        due.is("count(4)", book.count(4), NONE);
        book.port(1, 1);
        book.tick(1);
        due.holds("its frame", Bytes.isSent(book, Bytes.sentBy(1, 121)));
    }

    private static void typesTheLowestBytes() {
        due.begin("promise 2: the n lowest bytes, the highest of them first, behind others");
        long number = 0x81F2E3D4C5B6A798L;
        int[] all = {0x81, 0xF2, 0xE3, 0xD4, 0xC5, 0xB6, 0xA7, 0x98};
        for (int n = 1; n <= 8; n++) {
            Book book = Book.withPorts(0);
            book.type(0x11, 1);
            due.is("type(.., " + n + ")", book.type(number, n), n + 1);
            book.type(0x22, 1);
            book.tell(4);
            book.tick(1);
            int[] lowest = java.util.Arrays.copyOfRange(all, 8 - n, 8);
            due.holds("the " + n + " lowest", Bytes.isSent(book, Bytes.sentBy(0, 121,
                    Bytes.part(4, Bytes.join(Bytes.of(0x11), lowest, Bytes.of(0x22))))));
        }
        for (long edge : new long[] {0L, -1L, Long.MIN_VALUE, Long.MAX_VALUE}) {
            Book book = Book.withPorts(0);
            book.type(edge, 8);
            book.tell(4);
            book.tick(1);
            due.is("the highest byte of " + edge, book.sent(15), (int) (edge >>> 56));
            due.is("the lowest byte of " + edge, book.sent(22), (int) (edge & 255));
        }
    }

    private static void typesOneToEight() {
        due.begin("promise 2: n is 1 .. 8");
        for (int n : new int[] {0, 1, 8, 9, -1, 256, 257, LEAST, MOST}) {
            Book book = new Book();
            boolean good = n == 1 || n == 8;
            due.is("type(1, " + n + ")", book.type(1L, n), good ? n : NONE);
            due.is("count(3) behind type(1, " + n + ")", book.count(3), good ? n : 0);
        }
    }

    private static void typesUpToSevenHundred() {
        due.begin("promise 2: not more than 700");
        for (int n = 1; n <= 8; n++) {
            for (int before = 699 - n; before <= 700; before++) {
                Book book = new Book();
                Bytes.typeInto(book, Bytes.fill(before, 1));
                due.is("count(3)", book.count(3), before);
                boolean good = before + n <= 700;
                due.is("type(.., " + n + ") behind " + before, book.type(0, n), good ? before + n : NONE);
                due.is("count(3) then", book.count(3), good ? before + n : before);
            }
        }
    }

    private static void typesAgainBehindTheMost() {
        due.begin("promise 2: 700 that are told or heard make room");
        Book book = Book.withPorts(0);
        Bytes.typeInto(book, Bytes.fill(700, 1));
        due.is("tell(4) of 700", book.tell(4), 0);
        due.is("type(.., 1)", book.type(0, 1), NONE);
        due.is("hear(0) of 700", book.hear(0), 2);
        due.is("type(.., 1)", book.type(0, 1), 1);
        due.is("tell(4)", book.tell(4), 1);
        due.is("type(.., 8)", book.type(0, 8), 8);
    }

    private static void tells() {
        due.begin("promise 3: the typed bytes, which are none then, are the station's content of a type");
        int[] types = {1, 2, 4, 5, 6, 7, 8};
        for (int type : types) {
            Book book = Book.withPorts(2);
            due.is("tell(" + type + ")", Bytes.tell(book, type, 200 + type, 255), 1);
            due.is("count(3)", book.count(3), 0);
            book.tick(1);
            int[] who = type == 1 ? Bytes.part(1, 201, 255) : Bytes.part(1, 0, 0);
            int[] where = type == 2 ? Bytes.part(2, 202, 255, 2) : Bytes.part(2, 0, 0, 2);
            int[] more = type >= 4 ? Bytes.part(type, 200 + type, 255) : new int[0];
            due.holds("the frame with type " + type,
                    Bytes.isSent(book, Bytes.join(who, where, Bytes.hold(121), more, Bytes.END)));
            due.is("tell(" + type + ") of others", Bytes.tell(book, type, 1, 2, 3), 1);
            book.tick(1);
            due.is("the size of it then", book.sent(type == 1 ? 1 : type == 2 ? 5 : 14), type == 2 ? 4 : 3);
        }
    }

    private static void isTold(int what, int size, boolean good) {
        Book book = Book.withPorts(0);
        Bytes.typeInto(book, Bytes.fill(size, 7));
        String call = "tell(" + what + ") of " + size;
        due.is(call, book.tell(what), good ? 1 : 0);
        due.is("count(3) behind " + call, book.count(3), good ? 0 : size);
        book.tick(1);
        int more = what == 1 || what == 2 ? size - 2 : size == 0 ? 0 : size + 2;
        due.is("the frame's length behind " + call, book.count(5), good ? 15 + more : 15);
    }

    private static void tellsWhoAndPortOfTwoToFiftyNine() {
        due.begin("promise 3: 2 .. 59 (of 1 and 2)");
        for (int size : new int[] {0, 1, 2, 3, 58, 59, 60, 61, 256, 258, 700}) {
            isTold(1, size, size >= 2 && size <= 59);
            isTold(2, size, size >= 2 && size <= 59);
        }
    }

    private static void tellsMoreOfUpToSixty() {
        due.begin("promise 3: not more than 60 (of 4 to 8)");
        for (int what = 4; what <= 8; what++) {
            for (int size : new int[] {0, 1, 2, 59, 60, 61, 62, 256, 257, 700}) {
                isTold(what, size, size <= 60);
            }
        }
    }

    private static void tellsNoneAtAllTakesAway() {
        due.begin("promise 3: none at all take it away (4 to 8)");
        for (int what = 4; what <= 8; what++) {
            Book book = Book.withPorts(0);
            for (int type = 4; type <= 8; type++) {
                Bytes.tell(book, type, type);
            }
            due.is("tell(" + what + ") of none", book.tell(what), 1);
            book.tick(1);
            int[] left = new int[0];
            for (int type = 4; type <= 8; type++) {
                left = type == what ? left : Bytes.join(left, Bytes.part(type, type));
            }
            due.holds("all but " + what, Bytes.isSent(book, Bytes.sentBy(0, 121, left)));
            due.is("tell(" + what + ") of none, when it is not there", book.tell(what), 1);
            book.tick(1);
            due.holds("still all but " + what, Bytes.isSent(book, Bytes.sentBy(0, 121, left)));
        }
    }

    private static void tellsWhatIsNotTold() {
        due.begin("promise 3: none of 1, 2, 4 .. 8");
        for (int what : new int[] {0, 3, 9, -1, 10, 127, LEAST, MOST}) {
            for (int size : new int[] {0, 2, 59, 60}) {
                Book book = new Book();
                Bytes.typeInto(book, Bytes.fill(size, 7));
                due.is("tell(" + what + ") of " + size, book.tell(what), 0);
                due.is("count(3)", book.count(3), size);
            }
        }
    }

    private static void setsTheInterval() {
        due.begin("promise 4: the interval (what 0, 1 .. 3600)");
        for (int v : new int[] {0, 1, 2, 3599, 3600, 3601, -1, LEAST, MOST}) {
            boolean good = v >= 1 && v <= 3600;
            Book book = new Book();
            due.is("set(0, " + v + ")", book.set(0, v), good ? 1 : 0);
            book.port(0, 1);
            book.tick(4);
            int interval = good ? v : 30;
            due.is("the wait", book.about(0, 5), interval);
            due.is("no frame in the ticks before", interval == 1 ? 0 : book.tick(interval - 1), 0);
            due.is("one in the last", book.tick(1), 1);
            due.is("the wait again", book.about(0, 5), interval);
        }
    }

    private static void setsTheHold() {
        due.begin("promise 4: the hold (1, 2 .. 10)");
        for (int v : new int[] {0, 1, 2, 3, 9, 10, 11, -1, LEAST, MOST}) {
            boolean good = v >= 2 && v <= 10;
            Book book = new Book();
            due.is("set(1, " + v + ")", book.set(1, v), good ? 1 : 0);
            book.port(0, 1);
            book.tick(1);
            due.holds("what the frame holds", Bytes.isSent(book, Bytes.sentBy(0, 30 * (good ? v : 4) + 1)));
        }
    }

    private static void setsTheQuickNumber() {
        due.begin("promise 4: the quick number (2, 1 .. 8)");
        for (int v : new int[] {0, 1, 2, 7, 8, 9, -1, LEAST, MOST}) {
            boolean good = v >= 1 && v <= 8;
            Book book = new Book();
            due.is("set(2, " + v + ")", book.set(2, v), good ? 1 : 0);
            book.port(0, 1);
            due.is("the quick frames", book.about(0, 6), good ? v : 4);
            due.is("tick(20)", book.tick(20), good ? v : 4);
        }
    }

    private static void setsWhatIsNone() {
        due.begin("promise 4: 0 when there is none such");
        for (int what : new int[] {-1, 3, 4, LEAST, MOST}) {
            for (int v : new int[] {0, 1, 2, 8, 10}) {
                due.is("set(" + what + ", " + v + ")", new Book().set(what, v), 0);
            }
        }
    }

    private static void setHoldsFromTheNextFrameOn() {
        due.begin("promise 4: they hold from the next frame that is sent on");
        Book book = Book.withPorts(0);
        book.tick(4);
        book.set(0, 3);
        book.set(1, 2);
        due.is("the wait stays", book.about(0, 5), 30);
        due.is("sent(12) stays", book.sent(12), 121);
        due.is("tick(29)", book.tick(29), 0);
        due.is("sent(12) stays", book.sent(12), 121);
        due.is("tick(1)", book.tick(1), 1);
        due.is("the wait", book.about(0, 5), 3);
        due.is("sent(12)", book.sent(12), 7);
        due.is("tick(9)", book.tick(9), 3);
    }

    private static void setHoldsFromTheNextNeighborOn() {
        due.begin("promise 4: or neighbour heard on");
        Book book = Book.withPorts(0);
        book.set(2, 7);
        due.is("the quick frames stay", book.about(0, 6), 4);
        book.tick(1);
        due.is("the quick frames", book.about(0, 6), 3);
        Bytes.hear(book, 0, Bytes.frame(1, 9));
        due.is("the quick frames behind a new neighbour", book.about(0, 6), 7);
        book.set(2, 8);
        Bytes.hear(book, 0, Bytes.frame(1, 9));
        due.is("the quick frames behind a known one", book.about(0, 6), 7);
        book.port(1, 1);
        due.is("the quick frames of a port that goes up", book.about(1, 6), 8);
    }

    private static void contentsAtFirst() {
        due.begin("THE STATION: at first 1 and 2 are two bytes 0 each, the others not there");
        for (int p = 0; p < 4; p++) {
            Book book = Book.withPorts(p);
            book.tick(1);
            due.holds("the frame of port " + p,
                    Bytes.isSent(book, 2, 2, 0, 0, 4, 3, 0, 0, p, 6, 2, 0, 121, 0, 0));
        }
    }

    private static void portNumberIsPutBehind() {
        due.begin("THE STATION: to this the port's number, one byte, is put behind");
        for (int size : new int[] {2, 3, 58, 59}) {
            for (int p = 0; p < 4; p++) {
                Book book = Book.withPorts(p);
                Bytes.tell(book, 2, Bytes.fill(size, 99));
                book.tick(1);
                int[] where = Bytes.join(Bytes.fill(size, 99), Bytes.of(p));
                due.holds("port " + p + " behind " + size, Bytes.isSent(book, Bytes.join(Bytes.part(1, 0, 0),
                        Bytes.part(2, where), Bytes.hold(121), Bytes.END)));
                // What a station sends at its fullest is heard by another without a fault.
                Book other = Book.withPorts(0);
                int[] frame = new int[book.count(5)];
                for (int k = 0; k < frame.length; k++) {
                    frame[k] = book.sent(k);
                }
                due.is("heard by another", Bytes.hear(other, 0, frame), 0);
                due.is("its port's size", other.content(0, 2, NONE), size + 1);
            }
        }
    }

    private static void partsInTheirOrder() {
        due.begin("THE STATION: then 4 to 8, as far as they are there, with the END");
        for (int there = 0; there < 32; there++) {
            Book book = Book.withPorts(1);
            int[] more = new int[0];
            for (int type = 8; type >= 4; type--) {
                if ((there >> (type - 4) & 1) != 0) {
                    Bytes.tell(book, type, Bytes.fill(type, 3 * type));
                    more = Bytes.join(Bytes.part(type, Bytes.fill(type, 3 * type)), more);
                }
            }
            book.tick(1);
            due.holds("the frame of types " + there, Bytes.isSent(book, Bytes.sentBy(1, 121, more)));
        }
    }

    private static Book toldTheMost() {
        Book book = Book.withPorts(3);
        Bytes.tell(book, 1, Bytes.fill(59, 1));
        Bytes.tell(book, 2, Bytes.fill(59, 2));
        for (int type = 8; type >= 4; type--) {
            Bytes.tell(book, type, Bytes.fill(60, type));
        }
        book.tick(1);
        return book;
    }

    private static void longestFrame() {
        due.begin("THE STATION: the longest frame");
        int[] frame = Bytes.join(Bytes.part(1, Bytes.fill(59, 1)),
                Bytes.part(2, Bytes.join(Bytes.fill(59, 2), Bytes.of(3))), Bytes.hold(121));
        for (int type = 4; type <= 8; type++) {
            frame = Bytes.join(frame, Bytes.part(type, Bytes.fill(60, type)));
        }
        frame = Bytes.join(frame, Bytes.END);
        due.is("its bytes", frame.length, 439);
        // One object has not calls enough for all of them.
        for (int from = 0; from < frame.length; from += 300) {
            Book book = toldTheMost();
            due.is("count(5)", book.count(5), frame.length);
            due.is("sent(439)", book.sent(439), NONE);
            for (int k = from; k < Math.min(from + 300, frame.length); k++) {
                due.is("sent(" + k + ")", book.sent(k), frame[k]);
            }
        }
        Book book = toldTheMost();
        book.tell(4);
        book.tell(8);
        book.tick(1);
        due.is("count(5) of a shorter one behind it", book.count(5), 439 - 124);
        due.is("sent(314)", book.sent(314), 0);
        due.is("sent(315)", book.sent(315), NONE);
    }

    private static void holdsIntervalTimesHoldAndOne() {
        due.begin("THE STATION: it holds the INTERVAL times the HOLD and one more");
        int[][] settings = {{1, 2}, {1, 10}, {30, 4}, {127, 2}, {51, 5}, {3600, 2}, {3600, 10}};
        for (int[] setting : settings) {
            Book book = Book.withPorts(0);
            book.set(0, setting[0]);
            book.set(1, setting[1]);
            book.tick(1);
            int held = setting[0] * setting[1] + 1;
            due.holds("it holds " + held, Bytes.isSent(book, Bytes.sentBy(0, held)));
        }
    }

    private static void holdsAtMost() {
        due.begin("THE STATION: at most 65535");
        // The most that can be set is 3600 times 10: the boundary lies behind what calls can reach.
        for (int interval : new int[] {32766, 32767, 32768, 60000}) {
            Book book = Book.withPorts(0);
            book.set(1, 2);
            if (book.putInside("interval", interval)) {
                book.tick(1);
                due.holds("with an interval of " + interval,
                        Bytes.isSent(book, Bytes.sentBy(0, Math.min(65535, interval * 2 + 1))));
            }
        }
    }

    private static void sentBytes() {
        due.begin("promise 10: byte k; NONE when there is none such");
        Book book = Book.withPorts(3);
        for (int k : new int[] {0, 1, -1, LEAST, MOST}) {
            due.is("sent(" + k + ") before there was one", book.sent(k), NONE);
        }
        Bytes.tell(book, 1, 255, 128);
        book.tick(1);
        int[] frame = {2, 2, 255, 128, 4, 3, 0, 0, 3, 6, 2, 0, 121, 0, 0};
        for (int k = 0; k < frame.length; k++) {
            due.is("sent(" + k + ")", book.sent(k), frame[k]);
        }
        for (int k : new int[] {-1, -2, 15, 16, 438, 439, 440, 700, LEAST, MOST}) {
            due.is("sent(" + k + ")", book.sent(k), NONE);
        }
    }

    private static void sentIsTheLatest() {
        due.begin("promise 10: of the frame that was sent latest, of all ports");
        Book book = Book.withPorts(0, 2);
        book.tick(1);
        due.is("sent(8), the second of two ports", book.sent(8), 2);
        Bytes.tell(book, 1, 9, 9);
        due.is("sent(2) before the next frame", book.sent(2), 0);
        book.port(1, 1);
        due.is("sent(8), a port that goes up sends none yet", book.sent(8), 2);
        book.port(0, 0);
        due.is("sent(2), the port that goes down", book.sent(2), 9);
        due.is("sent(8), the port that goes down", book.sent(8), 0);
        book.tick(1);
        due.is("sent(8), of 1 and 2", book.sent(8), 2);
        book.tick(3);
        book.tick(2);
        due.is("sent(8) stays", book.sent(8), 1);
    }
}
