/**
 * A NeighborBook whose calls are counted: what it answers behind its 512th call is free, so no test
 * may go on for longer.
 */
final class Book {
    private static final int MOST_CALLS = 512;

    private final NeighborBook book = new NeighborBook();
    private int calls;

    /** A new book with these ports up. */
    static Book withPorts(int... ports) {
        Book book = new Book();
        for (int p : ports) {
            book.port(p, 1);
        }
        return book;
    }

    private NeighborBook next() {
        calls++;
        if (calls > MOST_CALLS) {
            throw new IllegalStateException("a test makes more than " + MOST_CALLS + " calls of one object");
        }
        return book;
    }

    int type(long bytes, int n) {
        return next().type(bytes, n);
    }

    int tell(int what) {
        return next().tell(what);
    }

    int set(int what, int v) {
        return next().set(what, v);
    }

    int port(int p, int up) {
        return next().port(p, up);
    }

    int hear(int p) {
        return next().hear(p);
    }

    int tick(int n) {
        return next().tick(n);
    }

    int about(int p, int what) {
        return next().about(p, what);
    }

    int count(int what) {
        return next().count(what);
    }

    int sent(int k) {
        return next().sent(k);
    }

    int neighbor(int i, int what) {
        return next().neighbor(i, what);
    }

    int content(int i, int type, int k) {
        return next().content(i, type, k);
    }

    int check() {
        return next().check();
    }

    /**
     * Gives a number inside the object a value that no 512 calls can bring it to. Answers false when
     * the object holds its state in another way, as the document leaves it free to.
     */
    boolean putInside(String field, int value) {
        try {
            java.lang.reflect.Field inside = NeighborBook.class.getDeclaredField(field);
            inside.setAccessible(true);
            inside.setInt(book, value);
            return true;
        } catch (ReflectiveOperationException | IllegalArgumentException e) {
            System.out.println("not looked at: there is no number " + field + " inside to begin from");
            return false;
        }
    }
}
