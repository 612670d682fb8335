import java.util.Arrays;

/**
 * A station with four ports that tells its neighbours who it is, and keeps what they tell.
 *
 * Everything that a run of calls needs is made in the constructors and used again, so that no
 * later call makes an object.
 */
public final class NeighborBook {
    public static final int NONE = -1;

    private static final int PORTS = 4;
    private static final int MOST_NEIGHBORS = 12;
    private static final int MOST_TYPED = 700;
    private static final int MOST_TICKS = 5000;
    private static final int MOST_HELD = 65535;
    private static final int LAST_TICK_NUMBER = 0x7FFFFFFF;

    private static final int END = 0;
    private static final int WHO = 1;
    private static final int WHERE = 2;
    private static final int HOLD = 3;
    private static final int FIRST_MORE = 4;
    private static final int LAST_MORE = 8;

    // Types 1, 2 and 4 to 8.
    private static final int KEPT_TYPES = 7;

    private static final int HEAD_BYTES = 2;
    private static final int HOLD_BYTES = 2;
    private static final int SIZE_BITS = 9;
    private static final int SIZE_MASK = 511;
    private static final int BYTE_MASK = 255;

    private static final int LEAST_NAME = 2;
    private static final byte[] FIRST_NAME = {0, 0};
    private static final int MOST_CONTENT = 60;
    // One byte less than a part may have: the port's number is put behind what is told.
    private static final int MOST_NAME_TOLD = 59;
    // Who and port with its number, the hold, all of types 4 to 8, the end.
    private static final int MOST_FRAME = 61 + 62 + 4 + 5 * 62 + 2;

    private static final int NO_FAULT = 0;
    private static final int BYTES_END = 1;
    private static final int WRONG_ORDER = 2;
    private static final int WRONG_SIZE = 3;
    private static final int ONCE_MORE = 4;
    private static final int TOO_MANY = 5;

    private final byte[] typed = new byte[MOST_TYPED];
    private int typedCount;
    private final Contents told = new Contents();
    private final Port[] ports = new Port[PORTS];
    private final Neighbors known = new Neighbors();
    private final FrameReader reader = new FrameReader();
    private final SentFrame latest = new SentFrame();
    private int interval = 30;
    private int hold = 4;
    private int quick = 4;
    private int ticks;
    private int latestFault;

    public NeighborBook() {
        for (int p = 0; p < PORTS; p++) {
            ports[p] = new Port();
        }
        told.keep(WHO, FIRST_NAME, 0, LEAST_NAME);
        told.keep(WHERE, FIRST_NAME, 0, LEAST_NAME);
    }

    public int type(long bytes, int n) {
        if (n < 1 || n > 8 || typedCount + n > MOST_TYPED) {
            return NONE;
        }
        for (int left = n - 1; left >= 0; left--) {
            typed[typedCount] = (byte) (bytes >>> (8 * left));
            typedCount++;
        }
        return typedCount;
    }

    public int tell(int what) {
        if (!isTellable(what, typedCount)) {
            return 0;
        }
        if (typedCount == 0) {
            tellNothing(what);
        } else {
            tellTyped(what);
        }
        typedCount = 0;
        return 1;
    }

    public int set(int what, int v) {
        if (what == 0 && v >= 1 && v <= 3600) {
            interval = v;
            return 1;
        }
        if (what == 1 && v >= 2 && v <= 10) {
            hold = v;
            return 1;
        }
        if (what == 2 && v >= 1 && v <= 8) {
            quick = v;
            return 1;
        }
        return 0;
    }

    public int port(int p, int up) {
        if (!isPort(p) || up < 0 || up > 1 || ports[p].isUp() == (up == 1)) {
            return 0;
        }
        if (up == 1) {
            ports[p].goUp(quick);
        } else {
            ports[p].goDown();
            latest.write(p, told, 0);
            known.forgetAllAt(p);
        }
        return 1;
    }

    public int hear(int p) {
        if (!isPort(p) || !ports[p].isUp()) {
            return NONE;
        }
        int fault = reader.read(typed, typedCount);
        typedCount = 0;
        if (fault == NO_FAULT) {
            fault = learn(p);
        }
        ports[p].noteHeard(fault == NO_FAULT);
        latestFault = fault;
        return fault;
    }

    public int tick(int n) {
        if (n < 1 || n > MOST_TICKS) {
            return NONE;
        }
        int frames = 0;
        int latestPort = NONE;
        for (int passed = 0; passed < n; passed++) {
            ticks = (ticks + 1) & LAST_TICK_NUMBER;
            known.passTick();
            for (int p = 0; p < PORTS; p++) {
                if (ports[p].passTick(interval)) {
                    frames++;
                    latestPort = p;
                }
            }
        }
        // Only the latest frame can be read, and nothing that is told changes while ticks pass.
        if (latestPort != NONE) {
            latest.write(latestPort, told, Math.min(interval * hold + 1, MOST_HELD));
        }
        return frames;
    }

    public int about(int p, int what) {
        if (!isPort(p)) {
            return NONE;
        }
        if (what == 4) {
            return known.sizeAt(p);
        }
        return ports[p].tellAbout(what);
    }

    public int count(int what) {
        switch (what) {
            case 0:
                return known.size();
            case 1:
                return ticks;
            case 2:
                return latestFault;
            case 3:
                return typedCount;
            case 4:
                return latest.portOf();
            case 5:
                return latest.length();
            default:
                return NONE;
        }
    }

    public int sent(int k) {
        return latest.byteAt(k);
    }

    public int neighbor(int i, int what) {
        if (!known.has(i)) {
            return NONE;
        }
        return known.at(i).tellAbout(what);
    }

    public int content(int i, int type, int k) {
        if (!known.has(i)) {
            return NONE;
        }
        Contents contents = known.at(i).contents();
        return k == NONE ? contents.sizeOf(type) : contents.byteAt(type, k);
    }

    public int check() {
        for (int i = 0; i < known.size(); i++) {
            int p = known.at(i).portOf();
            if (!isPort(p) || !ports[p].isUp() || known.find(p, known.at(i).contents()) != i) {
                return 0;
            }
        }
        return 1;
    }

    private static boolean isPort(int p) {
        return p >= 0 && p < PORTS;
    }

    private static boolean isTellable(int type, int size) {
        if (type == WHO || type == WHERE) {
            return size >= LEAST_NAME && size <= MOST_NAME_TOLD;
        }
        return isMore(type) && size <= MOST_CONTENT;
    }

    private static boolean isMore(int type) {
        return type >= FIRST_MORE && type <= LAST_MORE;
    }

    private void tellNothing(int type) {
        if (told.has(type)) {
            told.drop(type);
            hurryAll();
        }
    }

    private void tellTyped(int type) {
        // Told the same once more is not told something else: no port is hurried then.
        if (!told.isSame(type, typed, 0, typedCount)) {
            told.keep(type, typed, 0, typedCount);
            hurryAll();
        }
    }

    private void hurryAll() {
        for (int p = 0; p < PORTS; p++) {
            ports[p].hurry();
        }
    }

    private int learn(int p) {
        int i = known.find(p, reader.contents());
        if (reader.held() == 0) {
            // One that was not known never comes to be a neighbour with it, nor one too many.
            known.forget(i);
            return NO_FAULT;
        }
        if (i == NONE) {
            i = known.add(p);
            if (i == NONE) {
                return TOO_MANY;
            }
            ports[p].greet(quick);
        }
        // The two rows of contents change places, so that neither is copied nor made anew.
        Contents old = known.at(i).renew(reader.contents(), reader.held());
        reader.useNext(old);
        return NO_FAULT;
    }

    /** The contents that are kept of one station, by type. */
    private static final class Contents {
        private final int[] sizes = new int[LAST_MORE + 1];
        private final byte[] bytes = new byte[KEPT_TYPES * MOST_CONTENT];

        Contents() {
            clear();
        }

        private static boolean isKept(int type) {
            return type == WHO || type == WHERE || isMore(type);
        }

        /** Where a kept type's bytes begin: types 0 and 3 have no place. */
        private static int startOf(int type) {
            return (type < HOLD ? type - WHO : type - WHERE) * MOST_CONTENT;
        }

        void clear() {
            Arrays.fill(sizes, NONE);
        }

        void keep(int type, byte[] from, int start, int size) {
            if (isKept(type) && size >= 0 && size <= MOST_CONTENT
                    && start >= 0 && start <= from.length - size) {
                System.arraycopy(from, start, bytes, startOf(type), size);
                sizes[type] = size;
            }
        }

        void drop(int type) {
            if (has(type)) {
                sizes[type] = NONE;
            }
        }

        boolean has(int type) {
            return sizeOf(type) != NONE;
        }

        int sizeOf(int type) {
            return type >= 0 && type < sizes.length ? sizes[type] : NONE;
        }

        int byteAt(int type, int k) {
            if (k < 0 || k >= sizeOf(type)) {
                return NONE;
            }
            return bytes[startOf(type) + k] & BYTE_MASK;
        }

        boolean isSame(int type, byte[] from, int start, int size) {
            if (sizeOf(type) != size || start < 0 || start > from.length - size) {
                return false;
            }
            int own = startOf(type);
            for (int k = 0; k < size; k++) {
                if (bytes[own + k] != from[start + k]) {
                    return false;
                }
            }
            return true;
        }

        boolean isSameStation(Contents other) {
            return isSame(WHO, other.bytes, startOf(WHO), other.sizeOf(WHO))
                    && isSame(WHERE, other.bytes, startOf(WHERE), other.sizeOf(WHERE));
        }

        int typeBits() {
            int bits = 0;
            for (int type = WHO; type <= LAST_MORE; type++) {
                if (has(type)) {
                    bits |= 1 << type;
                }
            }
            return bits;
        }
    }

    /** Reads a frame part by part up to its first fault or its end. */
    private static final class FrameReader {
        private Contents contents = new Contents();
        private int held;

        Contents contents() {
            return contents;
        }

        int held() {
            return held;
        }

        void useNext(Contents spare) {
            contents = spare;
        }

        int read(byte[] frame, int length) {
            contents.clear();
            int at = 0;
            // No part is shorter than its head, so there are no more parts than this.
            for (int part = 0; part <= MOST_TYPED / HEAD_BYTES; part++) {
                int rest = length - at - HEAD_BYTES;
                if (rest < 0) {
                    return BYTES_END;
                }
                int head = pairAt(frame, at);
                int type = head >> SIZE_BITS;
                int size = head & SIZE_MASK;
                int fault = faultOfPart(part, type, size, rest);
                if (fault != NO_FAULT || type == END) {
                    return fault;
                }
                takePart(type, frame, at + HEAD_BYTES, size);
                at += HEAD_BYTES + size;
            }
            return BYTES_END;
        }

        private int faultOfPart(int part, int type, int size, int rest) {
            if (isOutOfOrder(part, type)) {
                return WRONG_ORDER;
            }
            if (isWrongSize(type, size)) {
                return WRONG_SIZE;
            }
            if (size > rest) {
                return BYTES_END;
            }
            return isMore(type) && contents.has(type) ? ONCE_MORE : NO_FAULT;
        }

        private static boolean isOutOfOrder(int part, int type) {
            if (part < HOLD) {
                return type != part + 1;
            }
            return type >= WHO && type <= HOLD;
        }

        private static boolean isWrongSize(int type, int size) {
            if (type == END) {
                return size != 0;
            }
            if (type == WHO || type == WHERE) {
                return size < LEAST_NAME || size > MOST_CONTENT;
            }
            if (type == HOLD) {
                return size < HOLD_BYTES;
            }
            return isMore(type) && size > MOST_CONTENT;
        }

        private void takePart(int type, byte[] frame, int start, int size) {
            if (type == HOLD) {
                held = pairAt(frame, start);
            } else {
                contents.keep(type, frame, start, size);
            }
        }

        private static int pairAt(byte[] frame, int at) {
            if (at < 0 || at + 1 >= frame.length) {
                return 0;
            }
            return (frame[at] & BYTE_MASK) << 8 | (frame[at + 1] & BYTE_MASK);
        }
    }

    /** The frame that was sent latest, of all ports. */
    private static final class SentFrame {
        private final byte[] bytes = new byte[MOST_FRAME];
        private int length;
        private int port = NONE;

        int length() {
            return length;
        }

        int portOf() {
            return port;
        }

        int byteAt(int k) {
            return k >= 0 && k < length ? bytes[k] & BYTE_MASK : NONE;
        }

        void write(int p, Contents told, int held) {
            port = p;
            length = 0;
            putHead(WHO, told.sizeOf(WHO));
            putContent(WHO, told);
            putHead(WHERE, told.sizeOf(WHERE) + 1);
            putContent(WHERE, told);
            putByte(p);
            putHead(HOLD, HOLD_BYTES);
            putByte(held >> 8);
            putByte(held);
            for (int type = FIRST_MORE; type <= LAST_MORE; type++) {
                if (told.has(type)) {
                    putHead(type, told.sizeOf(type));
                    putContent(type, told);
                }
            }
            putHead(END, 0);
        }

        private void putHead(int type, int size) {
            int head = type << SIZE_BITS | size;
            putByte(head >> 8);
            putByte(head);
        }

        private void putContent(int type, Contents told) {
            int size = told.sizeOf(type);
            for (int k = 0; k < size; k++) {
                putByte(told.byteAt(type, k));
            }
        }

        private void putByte(int value) {
            if (length < MOST_FRAME) {
                bytes[length] = (byte) value;
                length++;
            }
        }
    }

    /** One port: when it sends next, and what it has sent and heard. */
    private static final class Port {
        private boolean up;
        private int waitLeft;
        private int quickLeft;
        private int framesSent;
        private int heardWell;
        private int heardFaulty;

        boolean isUp() {
            return up;
        }

        void goUp(int quick) {
            up = true;
            quickLeft = quick;
            waitLeft = 1;
        }

        void goDown() {
            up = false;
            waitLeft = 0;
            framesSent++;
        }

        void hurry() {
            if (up) {
                waitLeft = 1;
            }
        }

        void greet(int quick) {
            quickLeft = Math.max(quickLeft, quick);
            waitLeft = 1;
        }

        void noteHeard(boolean well) {
            if (well) {
                heardWell++;
            } else {
                heardFaulty++;
            }
        }

        /** Answers whether a frame is sent in this tick. */
        boolean passTick(int interval) {
            if (!up) {
                return false;
            }
            waitLeft--;
            if (waitLeft > 0) {
                return false;
            }
            framesSent++;
            if (quickLeft > 0) {
                quickLeft--;
            }
            waitLeft = quickLeft > 0 ? 1 : interval;
            return true;
        }

        int tellAbout(int what) {
            switch (what) {
                case 0:
                    return up ? 1 : 0;
                case 1:
                    return framesSent;
                case 2:
                    return heardWell;
                case 3:
                    return heardFaulty;
                case 5:
                    return waitLeft;
                case 6:
                    return quickLeft;
                default:
                    return NONE;
            }
        }
    }

    /** One neighbour and what it told; a row that is used again for another when it is forgotten. */
    private static final class Neighbor {
        private Contents contents = new Contents();
        private int port;
        private int ticksLeft;
        private int frames;

        Contents contents() {
            return contents;
        }

        int portOf() {
            return port;
        }

        void begin(int p) {
            port = p;
            frames = 0;
        }

        /** Takes what the latest frame told, and gives back the row that is no longer needed. */
        Contents renew(Contents heard, int held) {
            Contents old = contents;
            contents = heard;
            ticksLeft = held;
            frames++;
            return old;
        }

        /** Answers whether this neighbour is over with this tick. */
        boolean passTick() {
            ticksLeft--;
            return ticksLeft <= 0;
        }

        int tellAbout(int what) {
            switch (what) {
                case 0:
                    return port;
                case 1:
                    return ticksLeft;
                case 2:
                    return frames;
                case 3:
                    return contents.typeBits();
                default:
                    return NONE;
            }
        }
    }

    /** The neighbours that are known, in the order in which they came to be known. */
    private static final class Neighbors {
        private final Neighbor[] rows = new Neighbor[MOST_NEIGHBORS];
        private int size;

        Neighbors() {
            for (int i = 0; i < MOST_NEIGHBORS; i++) {
                rows[i] = new Neighbor();
            }
        }

        int size() {
            return size;
        }

        boolean has(int i) {
            return i >= 0 && i < size;
        }

        /** The index must be one that has() tells to be there. */
        Neighbor at(int i) {
            return rows[i];
        }

        int sizeAt(int p) {
            int found = 0;
            for (int i = 0; i < size; i++) {
                if (rows[i].portOf() == p) {
                    found++;
                }
            }
            return found;
        }

        int find(int p, Contents heard) {
            for (int i = 0; i < size; i++) {
                if (rows[i].portOf() == p && rows[i].contents().isSameStation(heard)) {
                    return i;
                }
            }
            return NONE;
        }

        /** Begins a row behind the others, to be renewed at once: its index; NONE when all are used. */
        int add(int p) {
            if (size >= MOST_NEIGHBORS) {
                return NONE;
            }
            int i = size;
            rows[i].begin(p);
            size++;
            return i;
        }

        void forget(int i) {
            if (!has(i)) {
                return;
            }
            Neighbor gone = rows[i];
            size--;
            for (int k = i; k < size; k++) {
                rows[k] = rows[k + 1];
            }
            rows[size] = gone;
        }

        void forgetAllAt(int p) {
            for (int i = size - 1; i >= 0; i--) {
                if (rows[i].portOf() == p) {
                    forget(i);
                }
            }
        }

        void passTick() {
            for (int i = size - 1; i >= 0; i--) {
                if (rows[i].passTick()) {
                    forget(i);
                }
            }
        }
    }
}
