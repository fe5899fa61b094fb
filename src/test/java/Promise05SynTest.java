/** Promise 5: a SYN of a caller, with its number and greatest size. */
public final class Promise05SynTest {
    private static final Check CHECK = new Check("Promise05SynTest");
    private static final long TURNED = 0xFF000000L;

    public static void main(String[] args) {
        writtenAnswers();
        classesOfSizes();
        ofAnOpenCaller();
        theSameNumberAgain();
        anotherNumber();
        anotherNumberWithoutRoom();
        theSlotIsThatOfNow();
        cookiesAreGivenWithoutRoom();
        callersAreAddressAndPort();
        wrongOnesAreRefused();
        CHECK.end();
    }

    private static void writtenAnswers() {
        CookieListener x = new CookieListener();
        CHECK.due("a half", x.syn(1, 80, 100, 1460), 4187913325L);
        x.rooms(0, 2);
        CHECK.due("a cookie", x.syn(4, 80, 9, 64), 943232L);
    }

    private static void classesOfSizes() {
        int[][] sizes = {
            {0, 0}, {63, 0}, {64, 0}, {65, 0}, {255, 0}, {256, 1}, {535, 1}, {536, 2}, {1023, 2}, {1024, 3},
            {1219, 3}, {1220, 4}, {1439, 4}, {1440, 5}, {1459, 5}, {1460, 6}, {4095, 6}, {4096, 7}, {65535, 7},
        };
        CookieListener x = new CookieListener();
        for (int[] s : sizes) {
            x.rooms(4, 2);
            CHECK.due("half of size " + s[0], x.syn(-9, 65535, -3, s[0]), x.cookie(-9, 65535, -3, s[1], 0) ^ TURNED);
            x.close(-9, 65535);
            x.rooms(0, 2);
            CHECK.due("cookie of size " + s[0], x.syn(-9, 65535, -3, s[0]), x.cookie(-9, 65535, -3, s[1], 0));
        }
    }

    private static void ofAnOpenCaller() {
        CookieListener x = new CookieListener();
        Steps.open(x, 1, 1, 1, 1);
        Steps.open(x, 2, 2, 2, 2);
        x.take();
        CHECK.due("taken, same number", x.syn(1, 1, 1, 1), -1);
        CHECK.due("taken, another number", x.syn(1, 1, 9, 1), -1);
        CHECK.due("waits", x.syn(2, 2, 2, 2), -1);
        x.rooms(0, 2);
        CHECK.due("waits, no room for halves", x.syn(2, 2, 2, 2), -1);
        CHECK.told("nothing came", x, 0, 1, 2, 0, 2);
        CHECK.due("and no cookies' time", x.ack(5, 5, 5, 5), 8);
        x.close(1, 1);
        x.rooms(1, 2);
        CHECK.due("closed, it may ask again", x.syn(1, 1, 9, 1), x.cookie(1, 1, 9, 0, 0) ^ TURNED);
    }

    private static void theSameNumberAgain() {
        CookieListener x = new CookieListener();
        x.rooms(1, 2);
        long first = x.syn(1, 1, 5, 1460);
        x.pass(59);
        CHECK.due("with another size", x.syn(1, 1, 5, 64), first);
        CHECK.told("though halves are full, no cookie", x, 1, 0, 0, 0);
        x.rooms(0, 2);
        CHECK.due("though there is no room now", x.syn(1, 1, 5, 64), first);
        CHECK.due("it opens", x.ack(1, 1, 6, (int) first + 1), 2);
        CHECK.due("with its first class", x.take(), 1 + 65536 * 6);
        CookieListener y = new CookieListener();
        y.pass(63);
        long early = y.syn(1, 1, 5, 1460);
        y.pass(1);
        CHECK.due("in the next slot", y.syn(1, 1, 5, 1460), early);
    }

    private static void anotherNumber() {
        CookieListener x = new CookieListener();
        x.rooms(1, 2);
        long first = x.syn(1, 1, 5, 1460);
        long second = x.syn(1, 1, 6, 256);
        CHECK.due("a new half in place of the old", second, x.cookie(1, 1, 6, 1, 0) ^ TURNED);
        CHECK.told("one half", x, 1, 0, 0, 0);
        CHECK.due("the old one is no more", x.ack(1, 1, 6, (int) first + 1), 4);
        CHECK.due("the new one opens", x.ack(1, 1, 7, (int) second + 1), 2);
        CHECK.due("with its class", x.take(), 1 + 65536);
    }

    private static void anotherNumberWithoutRoom() {
        CookieListener x = new CookieListener();
        x.syn(1, 1, 5, 1460);
        x.syn(2, 1, 5, 1460);
        x.rooms(1, 2);
        long second = x.syn(1, 1, 6, 256);
        CHECK.due("a cookie, as one half fills size 1", second, x.cookie(1, 1, 6, 1, 0));
        CHECK.told("the old half went first", x, 1, 0, 0, 1);
        CHECK.due("nothing of it", x.state(1, 1), 0);
        CHECK.due("the other stays", x.state(2, 1), 1);
        CHECK.due("the cookie opens", x.ack(1, 1, 7, (int) second + 1), 5);
    }

    private static void theSlotIsThatOfNow() {
        int[] passes = {0, 63, 1, 63, 1, 64, 1855, 1, 64, 10000};
        CookieListener x = new CookieListener();
        for (int seconds : passes) {
            int slot = x.pass(seconds) / 64;
            x.rooms(4, 2);
            CHECK.due("half in slot " + slot, x.syn(3, 4, 5, 600), x.cookie(3, 4, 5, 2, slot) ^ TURNED);
            x.close(3, 4);
            x.rooms(0, 2);
            CHECK.due("cookie in slot " + slot, x.syn(3, 4, 5, 600), x.cookie(3, 4, 5, 2, slot));
        }
    }

    private static void cookiesAreGivenWithoutRoom() {
        CookieListener x = new CookieListener();
        x.rooms(2, 2);
        x.syn(1, 1, 1, 1);
        x.syn(2, 1, 1, 1);
        CHECK.due("third", x.syn(3, 1, 1, 1), x.cookie(3, 1, 1, 0, 0));
        CHECK.due("third again", x.syn(3, 1, 1, 1), x.cookie(3, 1, 1, 0, 0));
        CHECK.told("nothing is kept", x, 2, 0, 0, 2);
        x.close(1, 1);
        CHECK.due("room again", x.syn(3, 1, 1, 1), x.cookie(3, 1, 1, 0, 0) ^ TURNED);
        CHECK.told("a half", x, 2, 0, 0, 2);
    }

    private static void callersAreAddressAndPort() {
        CookieListener x = new CookieListener();
        x.syn(1, 1, 7, 64);
        x.syn(1, 2, 7, 64);
        x.syn(2, 1, 7, 64);
        x.syn(-1, 0, 7, 64);
        CHECK.told("four callers", x, 4, 0, 0, 0);
        CHECK.due("another address", x.state(0, 1), 0);
        CHECK.due("another port", x.state(-1, 65535), 0);
        CHECK.due("address -1", x.state(-1, 0), 1);
    }

    private static void wrongOnesAreRefused() {
        int[][] wrong = {
            {-1, 0}, {65536, 0}, {0, -1}, {0, 65536}, {65535, 65536}, {65536, 65535}, {Integer.MIN_VALUE, 0},
            {Integer.MAX_VALUE, 0}, {0, Integer.MIN_VALUE}, {0, Integer.MAX_VALUE},
        };
        CookieListener x = new CookieListener();
        x.syn(0, 0, 1, 64);
        for (int[] w : wrong) {
            CHECK.refused("syn(0, " + w[0] + ", 2, " + w[1] + ")", () -> x.syn(0, w[0], 2, w[1]));
            CHECK.told("nothing changed", x, 1, 0, 0, 0);
            CHECK.due("the half stays", x.syn(0, 0, 1, 64), x.cookie(0, 0, 1, 0, 0) ^ TURNED);
        }
        CHECK.due("port and size at their ends", x.syn(0, 65535, 1, 65535), x.cookie(0, 65535, 1, 7, 0) ^ TURNED);
    }
}
