/** The edges that the part "Terms" names before it comes to cookies: callers, numbers, time, slots, classes. */
public final class EdgeTermsTest {
    private static final Check CHECK = new Check("EdgeTermsTest");
    private static final long TURNED = 0xFF000000L;
    private static final int MIN = Integer.MIN_VALUE;
    private static final int MAX = Integer.MAX_VALUE;

    public static void main(String[] args) {
        anAddressIsAnInt();
        aPortIsFrom0To65535();
        numbersOfCallersGoRound();
        numbersOfListenersHalvesGoRound();
        numbersOfListenersCookiesGoRound();
        theTimeIsZeroAtFirst();
        aSlotIsTheTimeBy64RoundedDown();
        theClassIsTheLastNotAbove();
        everySizeHasItsClass();
        CHECK.end();
    }

    /** "A CALLER is an address (an int) and a port": none of these, which lie close for a careless key, is another. */
    private static void anAddressIsAnInt() {
        int[] addresses = {MIN, MIN + 1, -65536, -1, 0, 1, 65535, 65536, 65537, MAX};
        int[] ports = {0, 1, 65535};
        CookieListener x = new CookieListener();
        x.rooms(32, 16);
        int halves = 0;
        for (int address : addresses) {
            for (int port : ports) {
                CHECK.due("not there yet: " + address + " " + port, x.state(address, port), 0);
                x.syn(address, port, 1, 1);
                halves++;
                CHECK.due("halves after " + address + " " + port, x.told(0), halves);
            }
        }
        for (int address : addresses) {
            for (int port : ports) {
                CHECK.due("its own half: " + address + " " + port, x.close(address, port), 1);
                halves--;
                CHECK.due("halves without " + address + " " + port, x.told(0), halves);
            }
        }
    }

    /** "a port (0 to 65535)": all calls that name a caller, at both sides of both ends. */
    private static void aPortIsFrom0To65535() {
        for (int port : new int[] {0, 65535}) {
            CookieListener x = new CookieListener();
            long half = x.syn(3, port, 4, 64);
            CHECK.due("syn, port " + port, half, x.cookie(3, port, 4, 0, 0) ^ TURNED);
            CHECK.due("state, port " + port, x.state(3, port), 1);
            CHECK.due("ack, port " + port, Steps.ack(x, 3, port, 4, half), 2);
            CHECK.due("take, port " + port, x.take(), port);
            CHECK.due("close, port " + port, x.close(3, port), 3);
        }
        for (int port : new int[] {-1, 65536}) {
            CookieListener x = new CookieListener();
            CHECK.refused("syn, port " + port, () -> x.syn(3, port, 4, 64));
            CHECK.refused("state, port " + port, () -> x.state(3, port));
            CHECK.refused("ack, port " + port, () -> x.ack(3, port, 5, 5));
            CHECK.refused("close, port " + port, () -> x.close(3, port));
            CHECK.refused("cookie, port " + port, () -> x.cookie(3, port, 4, 0, 0));
            CHECK.told("nothing changed", x, 0, 0, 0, 0, 0, 0, 0, 0);
        }
    }

    /** "NUMBERS of segments are ints that go round": s - 1, at the ends of int and of what is without sign. */
    private static void numbersOfCallersGoRound() {
        int[][] numberAndS = {{MAX, MIN}, {MIN, MIN + 1}, {MAX - 1, MAX}, {-1, 0}, {0, 1}, {-2, -1}};
        for (int[] n : numberAndS) {
            CookieListener x = new CookieListener();
            int a = (int) x.syn(1, 1, n[0], 1) + 1;
            CHECK.due("half, s below " + n[1], x.ack(1, 1, n[1] - 1, a), 4);
            CHECK.due("half, s above " + n[1], x.ack(1, 1, n[1] + 1, a), 4);
            CHECK.due("half, s " + n[1], x.ack(1, 1, n[1], a), 2);
            CookieListener y = Steps.withCookies();
            int b = (int) y.syn(1, 1, n[0], 1) + 1;
            CHECK.due("cookie, s below " + n[1], y.ack(1, 1, n[1] - 1, b), 7);
            CHECK.due("cookie, s above " + n[1], y.ack(1, 1, n[1] + 1, b), 7);
            CHECK.due("cookie, s " + n[1], y.ack(1, 1, n[1], b), 5);
        }
    }

    /** The same for a - 1: under key 0 0, these numbers make caller 7, port 80 get the listener's numbers at the ends. */
    private static void numbersOfListenersHalvesGoRound() {
        halfWithListenersNumber(0xFFFFFFFFL, 0, 31890816, 0, 0);
        halfWithListenersNumber(0x7FFFFFFFL, 16, 13596922, 0, MIN);
        halfWithListenersNumber(0x00000000L, 31, 36575786, 4096, 1);
        halfWithListenersNumber(0x80000000L, 15, 19726675, 4096, MIN + 1);
    }

    private static void halfWithListenersNumber(long want, int slot, int number, int size, int a) {
        CookieListener x = Steps.at(slot * 64);
        CHECK.due("half with number " + want, x.syn(7, 80, number, size), want);
        CHECK.due("once more", x.syn(7, 80, number, size), want);
        CHECK.due("a below " + a, x.ack(7, 80, number + 1, a - 1), 4);
        CHECK.due("a above " + a, x.ack(7, 80, number + 1, a + 1), 4);
        CHECK.due("a " + a, x.ack(7, 80, number + 1, a), 2);
    }

    private static void numbersOfListenersCookiesGoRound() {
        cookieWithNumber(0xFFFFFFFFL, 31, 40900582, 4096, 0);
        cookieWithNumber(0x7FFFFFFFL, 15, 8918129, 4096, MIN);
        cookieWithNumber(0x00000000L, 0, 4891359, 0, 1);
        cookieWithNumber(0x80000000L, 16, 11383097, 0, MIN + 1);
    }

    private static void cookieWithNumber(long want, int slot, int number, int size, int a) {
        CookieListener x = Steps.at(slot * 64);
        x.rooms(0, 1);
        CHECK.due("cookie " + want, x.syn(7, 80, number, size), want);
        CHECK.due("asked for", x.cookie(7, 80, number, size == 0 ? 0 : 7, slot), want);
        CHECK.due("a below " + a, x.ack(7, 80, number + 1, a - 1), 7);
        CHECK.due("a above " + a, x.ack(7, 80, number + 1, a + 1), 7);
        CHECK.due("a " + a, x.ack(7, 80, number + 1, a), 5);
        CHECK.due("its class", x.take(), size == 0 ? 80 : 80 + 65536 * 7);
    }

    /** "THE TIME is in seconds, 0 at first". */
    private static void theTimeIsZeroAtFirst() {
        CookieListener x = new CookieListener();
        CHECK.due("told", x.told(7), 0);
        CHECK.due("pass(0)", x.pass(0), 0);
        CHECK.due("pass(1)", x.pass(1), 1);
        CHECK.due("told then", x.told(7), 1);
    }

    /** "a SLOT is the time by 64, rounded down": the last second of a slot and the first of the next. */
    private static void aSlotIsTheTimeBy64RoundedDown() {
        for (int slot : new int[] {1, 2, 3, 16, 31, 32, 33, 64, 2048, 4096}) {
            CookieListener x = Steps.at(slot * 64 - 1);
            slotIs("last second", x, slot - 1);
            x.pass(1);
            slotIs("first second", x, slot);
            x.pass(32);
            slotIs("in its middle", x, slot);
            x.pass(31);
            slotIs("its last second", x, slot);
        }
    }

    private static void slotIs(String when, CookieListener x, int slot) {
        x.rooms(1, 2);
        CHECK.due(when + ", half in slot " + slot, x.syn(3, 4, 5, 600), x.cookie(3, 4, 5, 2, slot) ^ TURNED);
        x.close(3, 4);
        x.rooms(0, 2);
        CHECK.due(when + ", cookie in slot " + slot, x.syn(3, 4, 5, 600), x.cookie(3, 4, 5, 2, slot));
    }

    /** "CLASSES 0 to 7 ...: that of a size is the last one not above it (0 if all are)": one below and at each. */
    private static void theClassIsTheLastNotAbove() {
        int[] least = {64, 256, 536, 1024, 1220, 1440, 1460, 4096};
        for (int kind = 0; kind < 8; kind++) {
            classIs(least[kind] - 1, kind == 0 ? 0 : kind - 1);
            classIs(least[kind], kind);
            classIs(least[kind] + 1, kind);
        }
        classIs(0, 0);
        classIs(1, 0);
        classIs(65535, 7);
    }

    private static void classIs(int size, int kind) {
        CookieListener x = new CookieListener();
        x.rooms(1, 2);
        long half = x.syn(1, 9, 5, size);
        CHECK.due("half of size " + size, half, x.cookie(1, 9, 5, kind, 0) ^ TURNED);
        long cookie = x.syn(2, 9, 5, size);
        CHECK.due("cookie of size " + size, cookie, x.cookie(2, 9, 5, kind, 0));
        Steps.ack(x, 1, 9, 5, half);
        Steps.ack(x, 2, 9, 5, cookie);
        CHECK.due("taken, of a half of size " + size, x.take(), 9 + 65536 * kind);
        CHECK.due("taken, of a cookie of size " + size, x.take(), 9 + 65536 * kind);
    }

    private static void everySizeHasItsClass() {
        int[] least = {0, 256, 536, 1024, 1220, 1440, 1460, 4096, 65536};
        for (int kind = 0; kind < 8; kind++) {
            CookieListener x = null;
            for (int size = least[kind]; size < least[kind + 1]; size++) {
                // A new one now and then, as an object is made for 512 calls.
                if ((size - least[kind]) % 500 == 0) {
                    x = new CookieListener();
                    x.rooms(0, 1);
                }
                CHECK.due("class of size " + size, x.syn(1, 1, 1, size) >> 24, kind);
            }
        }
    }
}
