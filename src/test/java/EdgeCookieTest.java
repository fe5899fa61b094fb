/** The edges that the paragraph THE COOKIE names: what stands in which bits, and what the hash is of. */
public final class EdgeCookieTest {
    private static final Check CHECK = new Check("EdgeCookieTest");
    private static final int MIN = Integer.MIN_VALUE;
    private static final int MAX = Integer.MAX_VALUE;

    public static void main(String[] args) {
        theSlotModulo32();
        theClassInThreeBits();
        theLowest24BitsOfTheHash();
        theAddressStandsAboveTheNumber();
        portClassAndSlotOfTheHash();
        theWholeSlotIsHashed();
        bits24To31AreTurned();
        CHECK.end();
    }

    private static long bits(long cookie, int from, int to) {
        return (cookie >> from) & ((1L << (to - from + 1)) - 1);
    }

    /** "bits 27 to 31 the slot modulo 32". */
    private static void theSlotModulo32() {
        int[][] slots = {
            {0, 0}, {1, 1}, {15, 15}, {16, 16}, {30, 30}, {31, 31}, {32, 0}, {33, 1}, {63, 31}, {64, 0}, {65, 1},
            {2047, 31}, {2048, 0}, {MAX - 1, 30}, {MAX, 31},
        };
        CookieListener x = new CookieListener();
        for (int[] s : slots) {
            long cookie = x.cookie(1, 2, 3, 5, s[0]);
            CHECK.due("bits 27 to 31 in slot " + s[0], bits(cookie, 27, 31), s[1]);
            CHECK.due("nothing above, without sign, in slot " + s[0], cookie >> 32, 0);
            CHECK.due("the class is left alone in slot " + s[0], bits(cookie, 24, 26), 5);
        }
    }

    /** "24 to 26 the class". */
    private static void theClassInThreeBits() {
        CookieListener x = new CookieListener();
        for (int kind = 0; kind < 8; kind++) {
            CHECK.due("class " + kind, bits(x.cookie(1, 2, 3, kind, 0), 24, 31), kind);
            CHECK.due("class " + kind + ", slot 31", bits(x.cookie(1, 2, 3, kind, 31), 24, 31), 31 * 8 + kind);
        }
    }

    /** "below that the lowest 24 bits of the hash": all of them, and none of the next. */
    private static void theLowest24BitsOfTheHash() {
        CookieListener x = new CookieListener();
        long seenSet = 0;
        long seenClear = 0;
        for (int number = 0; number < 100; number++) {
            long hash = x.hash((1L << 32) + number, 2);
            seenSet |= hash;
            seenClear |= ~hash;
            CHECK.due("cookie of number " + number, x.cookie(1, 2, number, 0, 0), hash & 0xFFFFFF);
        }
        CHECK.due("each bit was seen as 1 and as 0", seenSet & seenClear, -1);
    }

    /** "the hash of address (its 32 bits above) and number": no sign of one runs into the other. */
    private static void theAddressStandsAboveTheNumber() {
        int[] ints = {MIN, MIN + 1, -2, -1, 0, 1, 65536, MAX};
        for (int address : ints) {
            CookieListener x = new CookieListener();
            for (int number : ints) {
                long m = (address & 0xFFFFFFFFL) * 4294967296L + (number & 0xFFFFFFFFL);
                CHECK.due("cookie of address " + address + ", number " + number,
                        x.cookie(address, 0, number, 0, 0), x.hash(m, 0) & 0xFFFFFF);
            }
        }
    }

    /** "port + 2^16 class + 2^20 slot", each at its ends, the slot also where 2^20 slot leaves an int. */
    private static void portClassAndSlotOfTheHash() {
        int[] slots = {0, 1, 31, 32, 2047, 2048, 4095, 4096, MAX};
        for (int port : new int[] {0, 1, 32767, 32768, 65535}) {
            CookieListener x = new CookieListener();
            for (int kind : new int[] {0, 1, 6, 7}) {
                for (int slot : slots) {
                    long n = port + 65536L * kind + 1048576L * slot;
                    long want = slot % 32 * 134217728L + kind * 16777216L + (x.hash(4294967298L, n) & 0xFFFFFF);
                    CHECK.due("cookie of port " + port + ", class " + kind + ", slot " + slot,
                            x.cookie(1, port, 2, kind, slot), want);
                }
            }
        }
    }

    /** Slots that are the same modulo 32 have the same bits 27 to 31, but another hash: the old cookie is wrong. */
    private static void theWholeSlotIsHashed() {
        CookieListener x = Steps.withCookies();
        long old = x.syn(1, 1, 1, 1);
        CHECK.due("good in slot 0", Steps.ack(x, 1, 1, 1, old), 5);
        x.close(1, 1);
        x.pass(32 * 64);
        Steps.giveACookie(x);
        long young = x.cookie(1, 1, 1, 0, 32);
        CHECK.due("the same bits above", old >> 24, young >> 24);
        CHECK.due("of slot 0, in slot 32", Steps.ack(x, 1, 1, 1, old), 7);
        CHECK.due("of slot 32, in slot 32", Steps.ack(x, 1, 1, 1, young), 5);
    }

    /** "the cookie of it, but with bits 24 to 31 turned": those, and no others. */
    private static void bits24To31AreTurned() {
        for (int slot : new int[] {0, 15, 16, 31, 32}) {
            CookieListener x = Steps.at(slot * 64);
            for (int size : new int[] {0, 1460, 4096}) {
                x.rooms(4, 2);
                long half = x.syn(6, 7, 8, size);
                x.close(6, 7);
                x.rooms(0, 2);
                long cookie = x.syn(6, 7, 8, size);
                CHECK.due("turned in slot " + slot + ", size " + size, half ^ cookie, 0xFF000000L);
            }
        }
    }
}
