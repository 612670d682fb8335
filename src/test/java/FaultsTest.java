/** The terms FRAME and FAULTS, sentence by sentence, on both sides of each boundary. */
public final class FaultsTest {
    private static final int NONE = NeighborBook.NONE;
    private static final int[] WHO = Bytes.part(1, 1, 1);
    private static final int[] WHERE = Bytes.part(2, 2, 2);
    private static final int[] HOLD = Bytes.hold(9);
    private static final int[] START = Bytes.join(WHO, WHERE, HOLD);
    private static final Due due = new Due();

    private FaultsTest() {
    }

    public static void main(String[] args) {
        sevenBitsOfTypeAndNineOfSize();
        holdIsTheFirstTwoBytes();
        keptTypesAndOthers();
        bytesEndBeforeAnEnd();
        contentNotWhole();
        firstThreeParts();
        firstThreePartsByTypeAlone();
        oneOfTheFirstThreeLaterOn();
        sizesOfWhoAndPort();
        sizesOfTheHold();
        sizesOfMore();
        sizesOfTheEnd();
        sizesOfOthers();
        sizeBeforeTheContent();
        onceMore();
        othersMayComeOnceMore();
        moreThanTwelve();
        twelveOfAllPorts();
        earlierPartsFirst();
        withinOnePart();
        behindTheEnd();
        due.end();
    }

    private static void isFault(String what, int want, int[]... pieces) {
        Book book = Book.withPorts(0);
        due.is(what, Bytes.hear(book, 0, Bytes.join(pieces)), want);
        due.is("count(2) behind " + what, book.count(2), want);
        due.is("count(3) behind " + what, book.count(3), 0);
        due.is("count(0) behind " + what, book.count(0), want == 0 ? 1 : 0);
        due.is("about(0, 2) behind " + what, book.about(0, 2), want == 0 ? 1 : 0);
        due.is("about(0, 3) behind " + what, book.about(0, 3), want == 0 ? 0 : 1);
    }

    private static void isGood(String what, int[]... pieces) {
        isFault(what, 0, pieces);
    }

    private static void sevenBitsOfTypeAndNineOfSize() {
        due.begin("FRAME: TYPE (7 bits) and how many bytes its content has (9 bits)");
        for (int type : new int[] {9, 63, 64, 126, 127}) {
            for (int size : new int[] {0, 1, 127, 128, 255, 256, 257, 510, 511}) {
                Book book = Book.withPorts(0);
                // Were a bit of the head lost, the part behind would not begin where it does.
                int[] part = Bytes.part(type, Bytes.fill(size, 0x0E));
                due.is("hear of type " + type + " of " + size,
                        Bytes.hear(book, 0, Bytes.frame(1, 9, part, Bytes.part(4, 77))), 0);
                due.is("what is told behind it", book.content(0, 4, 0), 77);
            }
        }
    }

    private static void holdIsTheFirstTwoBytes() {
        due.begin("FRAME: how long this holds (the first two bytes of its content, in ticks)");
        int[][] contents = {{0, 1}, {0, 255}, {1, 0}, {127, 255}, {128, 0}, {255, 255}, {1, 2, 3}, {0, 7, 255, 255}};
        for (int[] content : contents) {
            Book book = Book.withPorts(0);
            due.is("hear", Bytes.hear(book, 0, Bytes.join(WHO, WHERE, Bytes.part(3, content), Bytes.END)), 0);
            due.is("neighbor(0, 1)", book.neighbor(0, 1), content[0] * 256 + content[1]);
        }
        Book book = Book.withPorts(0);
        Bytes.hear(book, 0, Bytes.join(WHO, WHERE, Bytes.part(3, 0, 0, 9), Bytes.END));
        due.is("count(0) with two bytes 0 and another behind", book.count(0), 0);
    }

    private static void keptTypesAndOthers() {
        due.begin("FRAME: 4 to 8 more about it, 9 to 127 others (not kept)");
        for (int type = 4; type <= 127; type++) {
            boolean kept = type <= 8;
            Book book = Book.withPorts(0);
            Bytes.hear(book, 0, Bytes.frame(1, 9, Bytes.part(type, 70, 71)));
            due.is("count(0), type " + type, book.count(0), 1);
            due.is("content(0, " + type + ", NONE)", book.content(0, type, NONE), kept ? 2 : NONE);
            due.is("content(0, " + type + ", 1)", book.content(0, type, 1), kept ? 71 : NONE);
            due.is("neighbor(0, 3), type " + type, book.neighbor(0, 3), kept ? 6 | 1 << type : 6);
        }
    }

    private static void bytesEndBeforeAnEnd() {
        due.begin("FAULTS, 1: the bytes end before there was an END");
        isFault("nothing", 1);
        for (int first : new int[] {0, 1, 2, 3, 6, 255}) {
            isFault("one byte " + first, 1, Bytes.of(first));
        }
        int[] whole = Bytes.join(START, Bytes.part(5, 1, 2), Bytes.part(99, 3), Bytes.END);
        for (int size = 0; size < whole.length; size++) {
            isFault("cut to " + size + " bytes", 1, Bytes.cut(size, whole));
        }
        isGood("not cut", whole);
        isFault("half a second type 1", 1, START, Bytes.of(2));
        isFault("half an end", 1, START, Bytes.of(0));
        // As long as can be typed: 12 bytes, 513, 171, 2, and two more.
        int[] most = Bytes.join(START, Bytes.part(9, Bytes.fill(511, 0)), Bytes.part(9, Bytes.fill(169, 0)),
                Bytes.part(9));
        due.is("its bytes but for the last part", most.length, Bytes.MOST_TYPED - 2);
        isGood("700 bytes, the end the last of them", most, Bytes.END);
        isFault("700 bytes without an end", 1, most, Bytes.part(9));
    }

    private static void contentNotWhole() {
        due.begin("FAULTS, 1: also a content that is not whole");
        for (int size : new int[] {2, 3, 60}) {
            int[] who = Bytes.part(1, Bytes.fill(size, 0));
            int[] where = Bytes.part(2, Bytes.fill(size, 0));
            int[] hold = Bytes.part(3, Bytes.fill(size, 1));
            isFault("who of " + size + " and one is not there", 1, Bytes.cut(size + 1, who));
            isFault("who of " + size, 1, who);
            isFault("port of " + size + " and one is not there", 1, WHO, Bytes.cut(size + 1, where));
            isFault("hold of " + size + " and one is not there", 1, WHO, WHERE, Bytes.cut(size + 1, hold));
            isGood("all of " + size, who, where, hold, Bytes.END);
        }
        for (int type : new int[] {4, 5, 6, 7, 8, 9, 127}) {
            for (int size : new int[] {1, 2, 60}) {
                int[] part = Bytes.part(type, Bytes.fill(size, 0));
                String name = "type " + type + " of " + size;
                isFault(name + " and none is there", 1, START, Bytes.cut(2, part));
                isFault(name + " and one is not there", 1, START, Bytes.cut(size + 1, part));
                isFault(name + " and no end", 1, START, part);
                isGood(name, START, part, Bytes.END);
            }
        }
        isFault("type 9 of 511 and one is not there", 1, START, Bytes.head(9, 511), Bytes.fill(510, 0));
        isFault("type 9 of 511 and no end", 1, START, Bytes.head(9, 511), Bytes.fill(511, 0));
    }

    private static void firstThreeParts() {
        due.begin("FAULTS, 2: the first three parts are not of types 1, 2, 3, in this order");
        int[][] before = {{}, WHO, Bytes.join(WHO, WHERE)};
        int[][] behind = {Bytes.join(WHERE, HOLD, Bytes.END), Bytes.join(HOLD, Bytes.END), Bytes.END};
        for (int place = 0; place < 3; place++) {
            for (int type = 0; type <= 127; type++) {
                int[] content = type == 0 ? new int[0] : Bytes.of(0, 5);
                isFault("type " + type + " in place " + place, type == place + 1 ? 0 : 2,
                        before[place], Bytes.part(type, content), behind[place]);
            }
        }
    }

    private static void firstThreePartsByTypeAlone() {
        due.begin("FAULTS, 2: looked at by type alone, before the rest of such a part");
        int[][] before = {{}, WHO, Bytes.join(WHO, WHERE)};
        for (int place = 0; place < 3; place++) {
            for (int type : new int[] {0, 1, 2, 3, 4, 8, 9, 127}) {
                for (int size : new int[] {0, 1, 2, 61, 511}) {
                    if (type != place + 1) {
                        isFault("type " + type + " of " + size + " in place " + place + ", nothing behind", 2,
                                before[place], Bytes.head(type, size));
                    }
                }
            }
            isFault("half a head in place " + place, 1, before[place], Bytes.of(255));
        }
    }

    private static void oneOfTheFirstThreeLaterOn() {
        due.begin("FAULTS, 2: or one of these comes later on");
        int[][] between = {{}, Bytes.part(4), Bytes.part(127, 1), Bytes.join(Bytes.part(8, 1), Bytes.part(9, 1, 2))};
        for (int[] more : between) {
            for (int type = 1; type <= 3; type++) {
                isFault("type " + type + ", whole", 2, START, more, Bytes.part(type, 1, 1), Bytes.END);
                for (int size : new int[] {0, 1, 2, 61, 511}) {
                    isFault("type " + type + " of " + size + ", nothing behind", 2, START, more,
                            Bytes.head(type, size));
                }
            }
            isGood("an end there", START, more, Bytes.END);
            isGood("type 5 there", START, more, Bytes.part(5, 1, 1), Bytes.END);
        }
    }

    private static void sizesOfWhoAndPort() {
        due.begin("FAULTS, 3: types 1 and 2 must have 2 to 60 bytes");
        for (int size : new int[] {0, 1, 2, 3, 59, 60, 61, 62, 255, 256, 258, 316, 511}) {
            int want = size >= 2 && size <= 60 ? 0 : 3;
            isFault("type 1 of " + size, want, Bytes.part(1, Bytes.fill(size, 5)), WHERE, HOLD, Bytes.END);
            isFault("type 2 of " + size, want, WHO, Bytes.part(2, Bytes.fill(size, 5)), HOLD, Bytes.END);
        }
    }

    private static void sizesOfTheHold() {
        due.begin("FAULTS, 3: type 3 at least 2");
        for (int size : new int[] {0, 1, 2, 3, 60, 61, 255, 256, 511}) {
            isFault("type 3 of " + size, size >= 2 ? 0 : 3, WHO, WHERE, Bytes.part(3, Bytes.fill(size, 1)),
                    Bytes.END);
        }
    }

    private static void sizesOfMore() {
        due.begin("FAULTS, 3: types 4 to 8 at most 60");
        for (int type = 4; type <= 8; type++) {
            for (int size : new int[] {0, 1, 2, 59, 60, 61, 62, 255, 256, 257, 511}) {
                isFault("type " + type + " of " + size, size <= 60 ? 0 : 3, START,
                        Bytes.part(type, Bytes.fill(size, 1)), Bytes.END);
            }
        }
    }

    private static void sizesOfTheEnd() {
        due.begin("FAULTS, 3: type 0 none");
        for (int size : new int[] {0, 1, 2, 60, 255, 256, 511}) {
            isFault("an end of " + size, size == 0 ? 0 : 3, START, Bytes.part(0, Bytes.fill(size, 0)), Bytes.END);
        }
    }

    private static void sizesOfOthers() {
        due.begin("FAULTS, 3: no other type's content is too short or long");
        for (int type = 9; type <= 127; type++) {
            for (int size : new int[] {0, 1, 61, 511}) {
                isGood("type " + type + " of " + size, START, Bytes.part(type, Bytes.fill(size, 1)), Bytes.END);
            }
        }
    }

    private static void sizeBeforeTheContent() {
        due.begin("FAULTS, 3: looked at before the content itself");
        int[][] before = {{}, WHO, Bytes.join(WHO, WHERE), START, START, START};
        int[] types = {1, 2, 3, 4, 8, 0};
        int[] tooShort = {1, 1, 1, NONE, NONE, NONE};
        int[] tooLong = {61, 61, NONE, 61, 61, 1};
        for (int i = 0; i < types.length; i++) {
            for (int size : new int[] {tooShort[i], tooLong[i]}) {
                if (size != NONE) {
                    String name = "type " + types[i] + " of " + size;
                    isFault(name + ", none is there", 3, before[i], Bytes.head(types[i], size));
                    isFault(name + ", one is not there", 3, before[i], Bytes.head(types[i], size),
                            Bytes.fill(size - 1, 0));
                }
            }
        }
        isFault("type 1 of 60, the most that is good, one is not there", 1, Bytes.head(1, 60), Bytes.fill(59, 0));
        isFault("type 3 of 511, one is not there", 1, WHO, WHERE, Bytes.head(3, 511), Bytes.fill(510, 0));
    }

    private static void onceMore() {
        due.begin("FAULTS, 4: one of types 4 to 8 comes once more");
        for (int type = 4; type <= 8; type++) {
            int[] part = Bytes.part(type, 1);
            isGood("type " + type + " once", START, part, Bytes.END);
            isFault("type " + type + " twice", 4, START, part, part, Bytes.END);
            isFault("type " + type + " twice, other bytes", 4, START, part, Bytes.part(type, 2, 3), Bytes.END);
            isFault("type " + type + " twice, first empty", 4, START, Bytes.part(type), part, Bytes.END);
            isFault("type " + type + " twice, both empty", 4, START, Bytes.part(type), Bytes.part(type), Bytes.END);
            for (int other = 4; other <= 8; other++) {
                if (other != type) {
                    isGood("types " + type + " and " + other, START, part, Bytes.part(other, 1), Bytes.END);
                    isFault("type " + type + " again behind " + other, 4, START, part, Bytes.part(other, 1), part,
                            Bytes.END);
                }
            }
        }
        isGood("4 to 8, backwards", START, Bytes.part(8, 1), Bytes.part(7, 1), Bytes.part(6, 1), Bytes.part(5, 1),
                Bytes.part(4, 1), Bytes.END);
        Book book = Book.withPorts(0);
        Bytes.hear(book, 0, Bytes.frame(1, 9, Bytes.part(4, 1)));
        due.is("type 4 in the next frame is not once more", Bytes.hear(book, 0, Bytes.frame(1, 9, Bytes.part(4, 1))),
                0);
        due.is("nor of another neighbour", Bytes.hear(book, 0, Bytes.frame(2, 9, Bytes.part(4, 1))), 0);
    }

    private static void othersMayComeOnceMore() {
        due.begin("FAULTS, 4: no other type");
        for (int type = 9; type <= 127; type++) {
            isGood("type " + type + " three times", START, Bytes.part(type, 1), Bytes.part(type), Bytes.part(type, 1),
                    Bytes.END);
        }
    }

    private static void moreThanTwelve() {
        due.begin("FAULTS, 5: there would be more neighbours than 12");
        Book book = Book.withPorts(0);
        for (int name = 1; name <= 12; name++) {
            due.is("hear of neighbour " + name, Bytes.hear(book, 0, Bytes.frame(name, 50)), 0);
            due.is("count(0)", book.count(0), name);
        }
        due.is("the thirteenth", Bytes.hear(book, 0, Bytes.frame(13, 50)), 5);
        due.is("count(2)", book.count(2), 5);
        due.is("count(3)", book.count(3), 0);
        due.is("count(0)", book.count(0), 12);
        due.is("about(0, 2)", book.about(0, 2), 12);
        due.is("about(0, 3)", book.about(0, 3), 1);
        due.is("neighbor(12, 0)", book.neighbor(12, 0), NONE);
        for (int name = 1; name <= 12; name++) {
            due.is("the known one " + name, Bytes.hear(book, 0, Bytes.frame(name, 60)), 0);
        }
        due.is("one that is not known and holds 0", Bytes.hear(book, 0, Bytes.frame(13, 0)), 0);
        due.is("count(0)", book.count(0), 12);
        due.is("a known one that holds 0", Bytes.hear(book, 0, Bytes.frame(7, 0)), 0);
        due.is("count(0)", book.count(0), 11);
        due.is("now the thirteenth is the twelfth", Bytes.hear(book, 0, Bytes.frame(13, 50)), 0);
        due.is("content(11, 1, 1)", book.content(11, 1, 1), 13);
        due.is("and there is no room for the seventh", Bytes.hear(book, 0, Bytes.frame(7, 50)), 5);
    }

    private static void twelveOfAllPorts() {
        due.begin("FAULTS, 5: neighbours of all ports together");
        Book book = Book.withPorts(0, 1, 2, 3);
        for (int name = 0; name < 12; name++) {
            due.is("hear(" + name % 4 + ")", Bytes.hear(book, name % 4, Bytes.frame(name / 4, 50)), 0);
        }
        for (int p = 0; p < 4; p++) {
            due.is("one more at port " + p, Bytes.hear(book, p, Bytes.frame(3, 50)), 5);
            due.is("about(" + p + ", 4)", book.about(p, 4), 3);
            due.is("about(" + p + ", 3)", book.about(p, 3), 1);
        }
        book.port(2, 0);
        for (int name = 3; name <= 5; name++) {
            due.is("in the room of port 2", Bytes.hear(book, 0, Bytes.frame(name, 50)), 0);
        }
        due.is("and no further", Bytes.hear(book, 0, Bytes.frame(6, 50)), 5);
    }

    private static void earlierPartsFirst() {
        due.begin("FAULTS: the first one met, part by part");
        int[] wrongSize = Bytes.part(6, Bytes.fill(61, 1));
        int[] twice = Bytes.join(Bytes.part(7), Bytes.part(7));
        isFault("3, then 2", 3, Bytes.part(1, 1), HOLD, Bytes.END);
        isFault("2, then 3", 2, WHERE, Bytes.part(2, 1), Bytes.END);
        isFault("2, then 4", 2, START, WHO, twice, Bytes.END);
        isFault("4, then 2", 4, START, twice, WHO, Bytes.END);
        isFault("3, then 4", 3, START, wrongSize, twice, Bytes.END);
        isFault("4, then 3", 4, START, twice, wrongSize, Bytes.END);
        isFault("4, then 1", 4, START, twice);
        isFault("3, then 1", 3, START, wrongSize);
        isFault("2, then 1", 2, START, HOLD);
        Book book = Book.withPorts(0);
        for (int name = 1; name <= 12; name++) {
            Bytes.hear(book, 0, Bytes.frame(name, 50));
        }
        due.is("1 of a thirteenth", Bytes.hear(book, 0, Bytes.start(13, 9)), 1);
        due.is("2 of a thirteenth", Bytes.hear(book, 0, Bytes.frame(13, 9, WHO)), 2);
        due.is("3 of a thirteenth", Bytes.hear(book, 0, Bytes.frame(13, 9, wrongSize)), 3);
        due.is("4 of a thirteenth", Bytes.hear(book, 0, Bytes.frame(13, 9, twice)), 4);
        due.is("5 of a thirteenth", Bytes.hear(book, 0, Bytes.frame(13, 9)), 5);
    }

    private static void withinOnePart() {
        due.begin("FAULTS: the first one met in one part");
        isFault("2 before 3", 2, START, Bytes.part(1, 1), Bytes.END);
        isFault("2 before 1", 2, START, Bytes.head(2, 2));
        isFault("3 before 1", 3, START, Bytes.head(5, 61));
        isFault("3 before 4", 3, START, Bytes.part(5), Bytes.part(5, Bytes.fill(61, 1)), Bytes.END);
        // The document tells of 2 and 3 alone that they are looked at before the content.
        isFault("1 before 4", 1, START, Bytes.part(5), Bytes.head(5, 2), Bytes.of(1));
    }

    private static void behindTheEnd() {
        due.begin("FAULTS: what stands behind the END does not matter");
        int[][] behind = {{}, {0}, {1}, {255}, WHO, Bytes.END, Bytes.part(4, 9), Bytes.part(4, Bytes.fill(61, 1)),
            Bytes.head(9, 511), Bytes.of(0, 1)};
        for (int[] rest : behind) {
            Book book = Book.withPorts(0);
            due.is("hear with " + rest.length + " behind",
                    Bytes.hear(book, 0, Bytes.join(Bytes.frame(1, 9, Bytes.part(4, 8)), rest)), 0);
            due.is("count(3)", book.count(3), 0);
            due.is("neighbor(0, 3)", book.neighbor(0, 3), 2 | 4 | 16);
            due.is("content(0, 4, 0)", book.content(0, 4, 0), 8);
        }
        isGood("up to 700 bytes", START, Bytes.END, Bytes.fill(Bytes.MOST_TYPED - START.length - 2, 2));
        isFault("an END that is no END for its size", 3, START, Bytes.of(0, 1), Bytes.END);
    }
}
