import java.util.ArrayList;
import java.util.List;
import java.util.function.BiConsumer;
import java.util.function.Supplier;
import java.util.function.ToIntFunction;

/**
 * Shows that a call changed nothing that another call can tell: of two books that were made alike
 * one has had the call, and then both are asked the same, for now and for what follows.
 */
final class Unchanged {
    private static final List<BiConsumer<Book, Answers>> LOOKS = List.of(
            Unchanged::everythingNow, Unchanged::theTypedAreTold, Unchanged::theTypedAreHeard,
            Unchanged::moreIsTyped, Unchanged::ticksPass, Unchanged::manyTicksPass, Unchanged::portsChange);

    private Unchanged() {
    }

    /** The answers of one look, each with its call. */
    private static final class Answers {
        private final List<String> lines = new ArrayList<>();

        void add(String call, int answer) {
            lines.add(call + " = " + answer);
        }

        /** The first line that is another than in other answers, but for calls that may change; null if none. */
        String firstOther(Answers other, String... mayChange) {
            for (int i = 0; i < Math.max(lines.size(), other.lines.size()); i++) {
                String one = i < lines.size() ? lines.get(i) : "nothing";
                String two = i < other.lines.size() ? other.lines.get(i) : "nothing";
                if (!one.equals(two) && !isOneOf(one, mayChange)) {
                    return one + ", not " + two;
                }
            }
            return null;
        }

        private static boolean isOneOf(String line, String... calls) {
            for (String call : calls) {
                if (line.startsWith(call)) {
                    return true;
                }
            }
            return false;
        }
    }

    static void by(Due due, String name, Supplier<Book> state, ToIntFunction<Book> call, int answer,
            String... mayChange) {
        for (BiConsumer<Book, Answers> look : LOOKS) {
            Book with = state.get();
            due.is(name, call.applyAsInt(with), answer);
            Answers before = new Answers();
            Answers behind = new Answers();
            look.accept(state.get(), before);
            look.accept(with, behind);
            String other = behind.firstOther(before, mayChange);
            due.holds(name + " changes nothing: " + other, other == null);
        }
    }

    /** Every call that only tells, with every argument that has an answer and those next to them. */
    private static void everythingNow(Book book, Answers answers) {
        ports(book, answers);
        for (int what = -1; what <= 6; what++) {
            answers.add("count(" + what + ")", book.count(what));
        }
        latestFrame(book, answers);
        for (int i = -1; i <= book.count(0); i++) {
            neighbor(book, i, answers);
        }
        answers.add("check()", book.check());
    }

    private static void ports(Book book, Answers answers) {
        for (int p = -1; p <= 4; p++) {
            for (int what = -1; what <= 7; what++) {
                answers.add("about(" + p + ", " + what + ")", book.about(p, what));
            }
        }
    }

    private static void latestFrame(Book book, Answers answers) {
        int length = book.count(5);
        for (int k = -1; k <= length; k++) {
            answers.add("sent(" + k + ")", book.sent(k));
        }
    }

    private static void neighbor(Book book, int i, Answers answers) {
        for (int what = -1; what <= 4; what++) {
            answers.add("neighbor(" + i + ", " + what + ")", book.neighbor(i, what));
        }
        for (int type = 0; type <= 9; type++) {
            int size = book.content(i, type, NeighborBook.NONE);
            answers.add("size of content(" + i + ", " + type + ")", size);
            for (int k = 0; k < size; k++) {
                answers.add("content(" + i + ", " + type + ", " + k + ")", book.content(i, type, k));
            }
        }
    }

    private static void theTypedAreTold(Book book, Answers answers) {
        answers.add("tell(8)", book.tell(8));
        answers.add("port(3, 1)", book.port(3, 1));
        answers.add("tick(1)", book.tick(1));
        latestFrame(book, answers);
    }

    private static void theTypedAreHeard(Book book, Answers answers) {
        answers.add("port(3, 1)", book.port(3, 1));
        answers.add("hear(3)", book.hear(3));
        int size = book.count(0);
        answers.add("count(0)", size);
        neighbor(book, size - 1, answers);
    }

    private static void moreIsTyped(Book book, Answers answers) {
        answers.add("type(5, 1)", book.type(5, 1));
        answers.add("type(.., 8)", book.type(0x0102030405060708L, 8));
        theTypedAreTold(book, answers);
    }

    private static void ticksPass(Book book, Answers answers) {
        for (int t = 0; t < 35; t++) {
            answers.add("tick(1)", book.tick(1));
            answers.add("count(0)", book.count(0));
            answers.add("count(4)", book.count(4));
            for (int p = 0; p < 4; p++) {
                answers.add("the wait of port " + p, book.about(p, 5));
                answers.add("the quick frames of port " + p, book.about(p, 6));
            }
        }
    }

    private static void manyTicksPass(Book book, Answers answers) {
        for (int t = 0; t < 14; t++) {
            answers.add("tick(5000)", book.tick(5000));
            answers.add("count(0)", book.count(0));
        }
        answers.add("count(1)", book.count(1));
        ports(book, answers);
        latestFrame(book, answers);
    }

    private static void portsChange(Book book, Answers answers) {
        answers.add("hear(0) of what was typed", book.hear(0));
        for (int p = 0; p < 4; p++) {
            answers.add("port(p, 0)", book.port(p, 0));
            latestFrame(book, answers);
            answers.add("port(p, 1)", book.port(p, 1));
            answers.add("the quick frames of port " + p, book.about(p, 6));
        }
        answers.add("tick(6)", book.tick(6));
        answers.add("hear(1) of a new one", Bytes.hear(book, 1, Bytes.frame(99, 7)));
        answers.add("the quick frames of port 1", book.about(1, 6));
        answers.add("tick(8)", book.tick(8));
        ports(book, answers);
    }
}
