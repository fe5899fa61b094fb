/**
 * Listens for connections under a flood: keeps halves of them as long as there is room, else
 * answers with a cookie, which proves by itself that its bearer was asked.
 */
public final class CookieListener {
    public static final int NONE = -1;

    private static final int MOST_HALVES = 32;
    private static final int MOST_ROOM = 16;
    private static final int MOST_OPEN = 64;
    private static final int MOST_SECONDS = 10000;
    private static final int MOST_PORT = 65535;
    private static final int MOST_SIZE = 65535;
    private static final int MOST_KIND = 7;

    private static final int SECONDS_OF_A_SLOT = 64;
    private static final int SECONDS_OF_A_HALF = 60;
    private static final int SECONDS_OF_COOKIES = 128;

    private static final int KIND_SHIFT = 24;
    private static final int SLOT_SHIFT = 27;
    private static final int SLOT_MASK = 31;
    private static final int HASH_MASK = 0x00FFFFFF;
    private static final int TURNED_BITS = 0xFF000000;
    private static final long LOW_32_BITS = 0xFFFFFFFFL;

    private static final int ACK_ALREADY_OPEN = 1;
    private static final int ACK_HALF_OPENS = 2;
    private static final int ACK_HALF_NO_ROOM = 3;
    private static final int ACK_HALF_DIFFERS = 4;
    private static final int ACK_COOKIE_OPENS = 5;
    private static final int ACK_COOKIE_NO_ROOM = 6;
    private static final int ACK_COOKIE_WRONG = 7;
    private static final int ACK_NO_COOKIES_LATELY = 8;

    private static final int STATE_NOTHING = 0;
    private static final int STATE_HALF = 1;
    private static final int STATE_WAITS = 2;
    private static final int STATE_TAKEN = 3;

    private static final int[] GREATEST_SIZES = {64, 256, 536, 1024, 1220, 1440, 1460, 4096};

    private final SipHash sip = new SipHash();
    private final Halves halves = new Halves();
    private final Connections connections = new Connections();
    private int sizeOfHalves = 4;
    private int roomOfQueue = 2;
    private int time = 0;
    private int cookiesTime = 0;
    private int cookiesGiven = 0;
    private int openedByHalves = 0;
    private int openedByCookies = 0;
    private int unproven = 0;

    public CookieListener() {
    }

    public void rooms(int size, int room) throws IllegalArgumentException {
        requireWithin(size, 0, MOST_HALVES);
        requireWithin(room, 1, MOST_ROOM);
        sizeOfHalves = size;
        roomOfQueue = room;
    }

    public void key(long k, long l) {
        sip.useKey(k, l);
    }

    public int pass(int seconds) throws IllegalArgumentException {
        requireWithin(seconds, 0, MOST_SECONDS);
        time += seconds;
        halves.dropOld(time);
        return time;
    }

    public long syn(int address, int port, int number, int size) throws IllegalArgumentException {
        requireWithin(port, 0, MOST_PORT);
        requireWithin(size, 0, MOST_SIZE);
        long caller = callerOf(address, port);
        if (connections.find(caller) != NONE) {
            return NONE;
        }
        int at = halves.find(caller);
        if (at != NONE && halves.numbers[at] == number) {
            return withoutSign(halves.answers[at]);
        }
        if (at != NONE) {
            halves.drop(at);
        }
        return withoutSign(answerNewSyn(caller, number, kindOf(size)));
    }

    public int ack(int address, int port, int s, int a) throws IllegalArgumentException {
        requireWithin(port, 0, MOST_PORT);
        long caller = callerOf(address, port);
        if (connections.find(caller) != NONE) {
            return ACK_ALREADY_OPEN;
        }
        int at = halves.find(caller);
        if (at != NONE) {
            return ackOfHalf(at, s - 1, a - 1);
        }
        int answer = ackWithoutHalf(caller, s - 1, a - 1);
        if (answer == ACK_COOKIE_WRONG || answer == ACK_NO_COOKIES_LATELY) {
            unproven++;
        }
        return answer;
    }

    public int take() {
        int at = connections.takeFirst();
        if (at == NONE) {
            return NONE;
        }
        return portOf(connections.callers[at]) + (connections.kinds[at] << 16);
    }

    public int close(int address, int port) throws IllegalArgumentException {
        requireWithin(port, 0, MOST_PORT);
        long caller = callerOf(address, port);
        int before = stateOf(caller);
        if (before == STATE_HALF) {
            halves.drop(halves.find(caller));
        } else if (before != STATE_NOTHING) {
            connections.drop(connections.find(caller));
        }
        return before;
    }

    public int state(int address, int port) throws IllegalArgumentException {
        requireWithin(port, 0, MOST_PORT);
        return stateOf(callerOf(address, port));
    }

    public long cookie(int address, int port, int number, int kind, int slot)
            throws IllegalArgumentException {
        requireWithin(port, 0, MOST_PORT);
        requireWithin(kind, 0, MOST_KIND);
        requireWithin(slot, 0, Integer.MAX_VALUE);
        return withoutSign(cookieOf(callerOf(address, port), number, kind, slot));
    }

    public long hash(long m, long n) {
        return sip.digest(m, n);
    }

    public int told(int what) throws IllegalArgumentException {
        switch (what) {
            case 0:
                return halves.count;
            case 1:
                return connections.waiting();
            case 2:
                return connections.count;
            case 3:
                return cookiesGiven;
            case 4:
                return openedByHalves;
            case 5:
                return openedByCookies;
            case 6:
                return unproven;
            case 7:
                return time;
            default:
                throw new IllegalArgumentException("what is not 0 to 7");
        }
    }

    private static void requireWithin(int value, int least, int most) {
        if (value < least || value > most) {
            throw new IllegalArgumentException("an argument is outside of what is allowed");
        }
    }

    /** Address and port as one long, so that callers are compared at once. */
    private static long callerOf(int address, int port) {
        return ((long) address << 32) | port;
    }

    private static int portOf(long caller) {
        return (int) caller & MOST_PORT;
    }

    private static long withoutSign(int number) {
        return number & LOW_32_BITS;
    }

    private static int kindOf(int size) {
        int kind = 0;
        for (int i = 0; i < GREATEST_SIZES.length; i++) {
            if (GREATEST_SIZES[i] <= size) {
                kind = i;
            }
        }
        return kind;
    }

    private int slotNow() {
        return time / SECONDS_OF_A_SLOT;
    }

    private int cookieOf(long caller, int number, int kind, int slot) {
        long m = (caller & ~LOW_32_BITS) | withoutSign(number);
        long n = portOf(caller) + ((long) kind << 16) + ((long) slot << 20);
        int low = (int) sip.digest(m, n) & HASH_MASK;
        return ((slot & SLOT_MASK) << SLOT_SHIFT) | (kind << KIND_SHIFT) | low;
    }

    private int answerNewSyn(long caller, int number, int kind) {
        int cookie = cookieOf(caller, number, kind, slotNow());
        if (halves.count >= sizeOfHalves) {
            cookiesGiven++;
            cookiesTime = time;
            return cookie;
        }
        // Turned, so that the number of a half that is gone never passes for a cookie.
        int answer = cookie ^ TURNED_BITS;
        halves.add(caller, number, answer, kind, time);
        return answer;
    }

    private int ackOfHalf(int at, int number, int answer) {
        if (halves.numbers[at] != number || halves.answers[at] != answer) {
            return ACK_HALF_DIFFERS;
        }
        if (!connections.hasRoom(roomOfQueue)) {
            return ACK_HALF_NO_ROOM;
        }
        connections.add(halves.callers[at], halves.kinds[at]);
        halves.drop(at);
        openedByHalves++;
        return ACK_HALF_OPENS;
    }

    private int ackWithoutHalf(long caller, int number, int c) {
        if (!cookiesGivenLately()) {
            return ACK_NO_COOKIES_LATELY;
        }
        int kind = (c >>> KIND_SHIFT) & MOST_KIND;
        if (!isCookieOfLateSlot(c, caller, number, kind)) {
            return ACK_COOKIE_WRONG;
        }
        if (!connections.hasRoom(roomOfQueue)) {
            return ACK_COOKIE_NO_ROOM;
        }
        connections.add(caller, kind);
        openedByCookies++;
        return ACK_COOKIE_OPENS;
    }

    private boolean cookiesGivenLately() {
        return cookiesGiven > 0 && time - cookiesTime <= SECONDS_OF_COOKIES;
    }

    private boolean isCookieOfLateSlot(int c, long caller, int number, int kind) {
        int slot = slotNow();
        if (c == cookieOf(caller, number, kind, slot)) {
            return true;
        }
        return slot > 0 && c == cookieOf(caller, number, kind, slot - 1);
    }

    private int stateOf(long caller) {
        int at = connections.find(caller);
        if (at != NONE) {
            return connections.isTaken(at) ? STATE_TAKEN : STATE_WAITS;
        }
        return halves.find(caller) != NONE ? STATE_HALF : STATE_NOTHING;
    }

    /** SipHash-2-4 of two longs; its four words are kept, so that a hash makes no objects. */
    private static final class SipHash {
        private static final long LENGTH_WORD = 1L << 60;

        private long k = 0;
        private long l = 0;
        private long v0 = 0;
        private long v1 = 0;
        private long v2 = 0;
        private long v3 = 0;

        void useKey(long first, long second) {
            k = first;
            l = second;
        }

        long digest(long m, long n) {
            v0 = k ^ 0x736f6d6570736575L;
            v1 = l ^ 0x646f72616e646f6dL;
            v2 = k ^ 0x6c7967656e657261L;
            v3 = l ^ 0x7465646279746573L;
            absorb(m);
            absorb(n);
            absorb(LENGTH_WORD);
            v2 ^= 255;
            mix(4);
            return v0 ^ v1 ^ v2 ^ v3;
        }

        private void absorb(long word) {
            v3 ^= word;
            mix(2);
            v0 ^= word;
        }

        private void mix(int rounds) {
            for (int i = 0; i < rounds; i++) {
                v0 += v1;
                v1 = turnLeft(v1, 13) ^ v0;
                v0 = turnLeft(v0, 32);
                v2 += v3;
                v3 = turnLeft(v3, 16) ^ v2;
                v0 += v3;
                v3 = turnLeft(v3, 21) ^ v0;
                v2 += v1;
                v1 = turnLeft(v1, 17) ^ v2;
                v2 = turnLeft(v2, 32);
            }
        }

        private static long turnLeft(long word, int by) {
            return (word << by) | (word >>> (64 - by));
        }
    }

    /** The halves, in no order: nothing that is answered depends on one. */
    private static final class Halves {
        private final long[] callers = new long[MOST_HALVES];
        private final int[] numbers = new int[MOST_HALVES];
        private final int[] answers = new int[MOST_HALVES];
        private final int[] kinds = new int[MOST_HALVES];
        private final int[] asked = new int[MOST_HALVES];
        private int count = 0;

        int find(long caller) {
            for (int i = 0; i < count; i++) {
                if (callers[i] == caller) {
                    return i;
                }
            }
            return NONE;
        }

        void add(long caller, int number, int answer, int kind, int now) {
            if (count >= MOST_HALVES) {
                return;
            }
            callers[count] = caller;
            numbers[count] = number;
            answers[count] = answer;
            kinds[count] = kind;
            asked[count] = now;
            count++;
        }

        void drop(int at) {
            if (at < 0 || at >= count) {
                return;
            }
            count--;
            callers[at] = callers[count];
            numbers[at] = numbers[count];
            answers[at] = answers[count];
            kinds[at] = kinds[count];
            asked[at] = asked[count];
        }

        void dropOld(int now) {
            // Downwards, since drop fills the gap with the last one, which has been looked at.
            for (int i = count - 1; i >= 0; i--) {
                if (now - asked[i] >= SECONDS_OF_A_HALF) {
                    drop(i);
                }
            }
        }
    }

    /**
     * The open ones in the order in which they opened. They are taken in that order too, so the
     * taken ones always stand first, and the queue is what stands behind them.
     */
    private static final class Connections {
        private final long[] callers = new long[MOST_OPEN];
        private final int[] kinds = new int[MOST_OPEN];
        private int count = 0;
        private int taken = 0;

        int waiting() {
            return count - taken;
        }

        boolean isTaken(int at) {
            return at < taken;
        }

        boolean hasRoom(int roomOfQueue) {
            return waiting() < roomOfQueue && count < MOST_OPEN;
        }

        int find(long caller) {
            for (int i = 0; i < count; i++) {
                if (callers[i] == caller) {
                    return i;
                }
            }
            return NONE;
        }

        void add(long caller, int kind) {
            if (count >= MOST_OPEN) {
                return;
            }
            callers[count] = caller;
            kinds[count] = kind;
            count++;
        }

        int takeFirst() {
            if (taken >= count) {
                return NONE;
            }
            taken++;
            return taken - 1;
        }

        void drop(int at) {
            if (at < 0 || at >= count) {
                return;
            }
            if (isTaken(at)) {
                taken--;
            }
            count--;
            for (int i = at; i < count; i++) {
                callers[i] = callers[i + 1];
                kinds[i] = kinds[i + 1];
            }
        }
    }
}
