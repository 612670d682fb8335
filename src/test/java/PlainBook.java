import java.util.ArrayList;
import java.util.List;
import java.util.TreeMap;

/**
 * The document once more, written straight down with lists and maps and without any row that is
 * used again: what NeighborBook answers is compared with it over long runs of calls.
 */
final class PlainBook {
    private static final int NONE = -1;

    private static final class Known {
        int port;
        int until;
        int frames;
        TreeMap<Integer, List<Integer>> parts;
    }

    private final TreeMap<Integer, List<Integer>> told = new TreeMap<>();
    private final List<Known> book = new ArrayList<>();
    private final boolean[] up = new boolean[4];
    private final int[][] tally = new int[4][4];
    private final int[] wait = new int[4];
    private final int[] quickLeft = new int[4];
    private List<Integer> typed = new ArrayList<>();
    private List<Integer> frame = new ArrayList<>();
    private int framePort = NONE;
    private int interval = 30;
    private int hold = 4;
    private int quick = 4;
    private int now;
    private int fault;

    PlainBook() {
        told.put(1, List.of(0, 0));
        told.put(2, List.of(0, 0));
    }

    int type(long bytes, int n) {
        if (n < 1 || n > 8 || typed.size() + n > 700) {
            return NONE;
        }
        for (int i = 0; i < n; i++) {
            typed.add((int) (bytes >> 8 * (n - 1 - i)) & 255);
        }
        return typed.size();
    }

    int tell(int what) {
        int size = typed.size();
        boolean name = what == 1 || what == 2;
        if (what < 1 || what > 8 || what == 3 || size > 60 || name && (size < 2 || size > 59)) {
            return 0;
        }
        List<Integer> before = told.get(what);
        List<Integer> after = size == 0 ? null : typed;
        typed = new ArrayList<>();
        if (before == null ? after != null : !before.equals(after)) {
            told.remove(what);
            if (after != null) {
                told.put(what, after);
            }
            java.util.Arrays.fill(wait, 1);
        }
        return 1;
    }

    int set(int what, int v) {
        if (what < 0 || what > 2) {
            return 0;
        }
        int least = what == 1 ? 2 : 1;
        int most = what == 0 ? 3600 : what == 1 ? 10 : 8;
        if (v < least || v > most) {
            return 0;
        }
        interval = what == 0 ? v : interval;
        hold = what == 1 ? v : hold;
        quick = what == 2 ? v : quick;
        return 1;
    }

    int port(int p, int way) {
        if (p < 0 || p > 3 || way < 0 || way > 1 || up[p] == (way == 1)) {
            return 0;
        }
        up[p] = way == 1;
        if (up[p]) {
            wait[p] = 1;
            quickLeft[p] = quick;
        } else {
            send(p, 0);
            book.removeIf(known -> known.port == p);
        }
        return 1;
    }

    private void send(int p, int held) {
        tally[p][1]++;
        framePort = p;
        frame = new ArrayList<>();
        addPart(1, told.get(1));
        List<Integer> where = new ArrayList<>(told.get(2));
        where.add(p);
        addPart(2, where);
        addPart(3, List.of(held / 256, held % 256));
        for (int type : told.tailMap(4).keySet()) {
            addPart(type, told.get(type));
        }
        addPart(0, List.of());
    }

    private void addPart(int type, List<Integer> content) {
        int head = type * 512 + content.size();
        frame.add(head / 256);
        frame.add(head % 256);
        frame.addAll(content);
    }

    int hear(int p) {
        if (p < 0 || p > 3 || !up[p]) {
            return NONE;
        }
        TreeMap<Integer, List<Integer>> parts = new TreeMap<>();
        fault = readInto(parts, typed);
        typed = new ArrayList<>();
        if (fault == 0) {
            int held = parts.get(3).get(0) * 256 + parts.get(3).get(1);
            parts.remove(3);
            fault = learn(p, parts, held);
        }
        tally[p][fault == 0 ? 2 : 3]++;
        return fault;
    }

    private static int readInto(TreeMap<Integer, List<Integer>> parts, List<Integer> rest) {
        for (int place = 1; ; place++) {
            if (rest.size() < 2) {
                return 1;
            }
            int type = rest.get(0) / 2;
            int size = rest.get(0) % 2 * 256 + rest.get(1);
            if (place <= 3 && type != place || place > 3 && type >= 1 && type <= 3) {
                return 2;
            }
            int least = type == 1 || type == 2 || type == 3 ? 2 : 0;
            int most = type == 0 ? 0 : type == 3 || type > 8 ? 511 : 60;
            if (size < least || size > most) {
                return 3;
            }
            if (rest.size() < 2 + size) {
                return 1;
            }
            if (type == 0) {
                return 0;
            }
            if (type <= 8 && parts.put(type, rest.subList(2, 2 + size)) != null) {
                return 4;
            }
            rest = rest.subList(2 + size, rest.size());
        }
    }

    private int learn(int p, TreeMap<Integer, List<Integer>> parts, int held) {
        Known same = null;
        for (Known known : book) {
            if (known.port == p && known.parts.get(1).equals(parts.get(1))
                    && known.parts.get(2).equals(parts.get(2))) {
                same = known;
            }
        }
        if (held == 0) {
            book.remove(same);
            return 0;
        }
        if (same == null) {
            if (book.size() == 12) {
                return 5;
            }
            same = new Known();
            same.port = p;
            book.add(same);
            wait[p] = 1;
            quickLeft[p] = quick > quickLeft[p] ? quick : quickLeft[p];
        }
        same.parts = parts;
        same.until = now + held;
        same.frames++;
        return 0;
    }

    int tick(int n) {
        if (n < 1 || n > 5000) {
            return NONE;
        }
        int frames = 0;
        for (int t = 0; t < n; t++) {
            now++;
            book.removeIf(known -> known.until == now);
            for (int p = 0; p < 4; p++) {
                if (up[p] && --wait[p] == 0) {
                    send(p, interval * hold + 1);
                    frames++;
                    quickLeft[p] = quickLeft[p] > 0 ? quickLeft[p] - 1 : 0;
                    wait[p] = quickLeft[p] > 0 ? 1 : interval;
                }
            }
        }
        return frames;
    }

    int about(int p, int what) {
        if (p < 0 || p > 3 || what < 0 || what > 6) {
            return NONE;
        }
        int neighbors = (int) book.stream().filter(known -> known.port == p).count();
        int[] all = {up[p] ? 1 : 0, tally[p][1], tally[p][2], tally[p][3], neighbors, up[p] ? wait[p] : 0,
            quickLeft[p]};
        return all[what];
    }

    int count(int what) {
        int[] all = {book.size(), now, fault, typed.size(), framePort, frame.size()};
        return what < 0 || what > 5 ? NONE : all[what];
    }

    int sent(int k) {
        return k < 0 || k >= frame.size() ? NONE : frame.get(k);
    }

    int neighbor(int i, int what) {
        if (i < 0 || i >= book.size() || what < 0 || what > 3) {
            return NONE;
        }
        Known known = book.get(i);
        int bits = known.parts.keySet().stream().mapToInt(type -> 1 << type).sum();
        int[] all = {known.port, known.until - now, known.frames, bits};
        return all[what];
    }

    int content(int i, int type, int k) {
        if (i < 0 || i >= book.size() || !book.get(i).parts.containsKey(type)) {
            return NONE;
        }
        List<Integer> content = book.get(i).parts.get(type);
        if (k == NONE) {
            return content.size();
        }
        return k < 0 || k >= content.size() ? NONE : content.get(k);
    }
}
