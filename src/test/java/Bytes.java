import java.util.Arrays;

/** Makes frames of parts and types them into a book. */
final class Bytes {
    static final int[] END = {0, 0};
    static final int MOST_TYPED = 700;

    private Bytes() {
    }

    static int[] of(int... bytes) {
        return bytes;
    }

    static int[] join(int[]... pieces) {
        int[] all = new int[0];
        for (int[] piece : pieces) {
            int start = all.length;
            all = Arrays.copyOf(all, start + piece.length);
            System.arraycopy(piece, 0, all, start, piece.length);
        }
        return all;
    }

    static int[] fill(int size, int value) {
        int[] bytes = new int[size];
        Arrays.fill(bytes, value);
        return bytes;
    }

    /** The first bytes alone: what is left of a frame that is cut. */
    static int[] cut(int size, int[] bytes) {
        return Arrays.copyOf(bytes, size);
    }

    static int[] head(int type, int size) {
        return of(type << 1 | size >> 8, size & 255);
    }

    static int[] part(int type, int... content) {
        return join(head(type, content.length), content);
    }

    static int[] hold(int ticks) {
        return part(3, ticks >> 8, ticks & 255);
    }

    /** The three parts that a frame must begin with, of a neighbour that is told apart by a number. */
    static int[] start(int name, int ticks) {
        return join(part(1, 0xA0, name), part(2, 0xB0, name), hold(ticks));
    }

    /** A whole frame of this neighbour, with more parts before the end. */
    static int[] frame(int name, int ticks, int[]... more) {
        return join(start(name, ticks), join(more), END);
    }

    /** The frame of a station that was told nothing but these parts of types 4 to 8. */
    static int[] sentBy(int port, int ticks, int[]... more) {
        return join(part(1, 0, 0), part(2, 0, 0, port), hold(ticks), join(more), END);
    }

    static void typeInto(Book book, int... bytes) {
        for (int at = 0; at < bytes.length; at += 8) {
            int n = Math.min(8, bytes.length - at);
            long number = 0;
            for (int k = 0; k < n; k++) {
                number = number << 8 | bytes[at + k];
            }
            book.type(number, n);
        }
    }

    static int hear(Book book, int p, int... bytes) {
        typeInto(book, bytes);
        return book.hear(p);
    }

    static int tell(Book book, int what, int... bytes) {
        typeInto(book, bytes);
        return book.tell(what);
    }

    static boolean isSent(Book book, int... bytes) {
        for (int k = 0; k < bytes.length; k++) {
            if (book.sent(k) != bytes[k]) {
                return false;
            }
        }
        return book.count(5) == bytes.length && book.sent(bytes.length) == NeighborBook.NONE;
    }
}
