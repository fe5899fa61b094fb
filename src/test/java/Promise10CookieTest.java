/** Promise 10: the cookie that a caller, number, class and slot have, without sign. */
public final class Promise10CookieTest {
    private static final Check CHECK = new Check("Promise10CookieTest");

    public static void main(String[] args) {
        writtenAnswers();
        partsOfACookie();
        askingGivesNone();
        wrongOnesAreRefused();
        CHECK.end();
    }

    private static void writtenAnswers() {
        CookieListener x = new CookieListener();
        CHECK.due("class 0", x.cookie(4, 80, 9, 0, 0), 943232);
        CHECK.due("class 7", x.cookie(5, 80, 10, 7, 0), 129336478);
        CHECK.due("all at their ends", x.cookie(-1, 65535, -1, 7, Integer.MAX_VALUE), 4278417007L);
    }

    private static void partsOfACookie() {
        int[] words = {0, 1, -1, 77, Integer.MIN_VALUE, Integer.MAX_VALUE};
        int[] slots = {0, 1, 31, 32, 33, 1 << 12, 80000, Integer.MAX_VALUE};
        for (int address : words) {
            for (int number : words) {
                CookieListener x = new CookieListener();
                x.key(address * 31L, number * 37L);
                for (int kind = 0; kind < 8; kind++) {
                    for (int slot : slots) {
                        int port = (kind * 9973 + slot) & 65535;
                        long low = x.hash(address * (1L << 32) + Integer.toUnsignedLong(number),
                                port + 65536L * kind + 1048576L * slot) & 0xFFFFFF;
                        long want = (slot % 32) * (1L << 27) + kind * (1L << 24) + low;
                        CHECK.due("cookie(" + address + ", " + port + ", " + number + ", " + kind + ", " + slot + ")",
                                x.cookie(address, port, number, kind, slot), want);
                    }
                }
            }
        }
    }

    private static void askingGivesNone() {
        CookieListener x = new CookieListener();
        int a = (int) x.cookie(1, 1, 1, 1, 0) + 1;
        CHECK.told("asking is not giving", x, 0, 0, 0, 0);
        CHECK.due("cookies were never given", x.ack(1, 1, 2, a), 8);
    }

    private static void wrongOnesAreRefused() {
        CookieListener x = new CookieListener();
        int[][] wrong = {
            {-1, 0, 0}, {65536, 0, 0}, {0, -1, 0}, {0, 8, 0}, {0, 0, -1}, {65536, 7, 1}, {65535, 8, 1},
            {Integer.MIN_VALUE, 0, 0}, {Integer.MAX_VALUE, 0, 0}, {0, Integer.MIN_VALUE, 0},
            {0, Integer.MAX_VALUE, 0}, {0, 0, Integer.MIN_VALUE},
        };
        for (int[] w : wrong) {
            CHECK.refused("cookie(0, " + w[0] + ", 0, " + w[1] + ", " + w[2] + ")",
                    () -> x.cookie(0, w[0], 0, w[1], w[2]));
            CHECK.told("nothing changed", x, 0, 0, 0, 0, 0, 0, 0, 0);
        }
        CHECK.due("the lower ends", x.cookie(0, 0, 0, 0, 0), 1517942);
    }
}
