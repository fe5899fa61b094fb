/** Promise 6: an ACK of a caller; answers 1 to 8. */
public final class Promise06AckTest {
    private static final Check CHECK = new Check("Promise06AckTest");

    public static void main(String[] args) {
        ofAnOpenCaller();
        ofAHalf();
        ofAHalfWithoutRoom();
        numbersGoRound();
        aHalfHidesTheCookie();
        ofACookie();
        ofACookieWithoutRoom();
        slotsOfCookies();
        theSlotBelowZero();
        cookiesTimeEnds();
        atMostSixtyFourOpen();
        theNumberOfAHalfIsNoCookie();
        wrongOnesAreRefused();
        CHECK.end();
    }

    private static void ofAnOpenCaller() {
        CookieListener x = new CookieListener();
        Steps.open(x, 1, 1, 1, 1);
        CHECK.due("waits", x.ack(1, 1, 0, 0), 1);
        x.take();
        CHECK.due("taken", x.ack(1, 1, 0, 0), 1);
        CHECK.told("nothing changed", x, 0, 0, 1, 0, 1, 0, 0);
    }

    private static void ofAHalf() {
        CookieListener x = new CookieListener();
        int a = (int) x.syn(1, 1, 50, 1460) + 1;
        CHECK.due("s too low", x.ack(1, 1, 50, a), 4);
        CHECK.due("s too high", x.ack(1, 1, 52, a), 4);
        CHECK.due("a too low", x.ack(1, 1, 51, a - 1), 4);
        CHECK.due("a too high", x.ack(1, 1, 51, a + 1), 4);
        CHECK.due("another port", x.ack(1, 2, 51, a), 8);
        CHECK.told("it stays", x, 1, 0, 0, 0, 0, 0, 1);
        CHECK.due("right", x.ack(1, 1, 51, a), 2);
        CHECK.told("it is open, its half gone", x, 0, 1, 1, 0, 1, 0, 1);
        CHECK.due("state", x.state(1, 1), 2);
        CHECK.due("class", x.take(), 1 + 65536 * 6);
    }

    private static void ofAHalfWithoutRoom() {
        CookieListener x = new CookieListener();
        x.rooms(4, 1);
        Steps.open(x, 1, 1, 1, 1);
        int a = (int) x.syn(2, 2, 2, 2) + 1;
        CHECK.due("wrong number, no room", x.ack(2, 2, 9, a), 4);
        CHECK.due("no room", x.ack(2, 2, 3, a), 3);
        CHECK.due("it stays", x.state(2, 2), 1);
        CHECK.told("nothing changed", x, 1, 1, 1, 0, 1, 0, 0);
        x.take();
        CHECK.due("room", x.ack(2, 2, 3, a), 2);
    }

    private static void numbersGoRound() {
        CookieListener x = new CookieListener();
        x.rooms(4, 4);
        CHECK.due("number at the top", Steps.open(x, 1, 1, Integer.MAX_VALUE, 1), 2);
        CHECK.due("number at the bottom", Steps.open(x, 2, 1, Integer.MIN_VALUE, 1), 2);
        CHECK.due("number -1", Steps.open(x, 3, 1, -1, 1), 2);
        x.rooms(0, 16);
        CHECK.due("a cookie, number at the top", Steps.open(x, 4, 1, Integer.MAX_VALUE, 1), 5);
        CHECK.due("a cookie, number -1", Steps.open(x, 5, 1, -1, 1), 5);
        CHECK.due("a at the bottom", x.ack(6, 1, Integer.MIN_VALUE, Integer.MIN_VALUE), 7);
    }

    private static void aHalfHidesTheCookie() {
        CookieListener x = Steps.withCookies();
        int a = (int) x.syn(1, 1, 1, 64) + 1;
        x.rooms(4, 2);
        x.syn(1, 1, 1, 64);
        CHECK.due("a good cookie, but there is a half", x.ack(1, 1, 2, a), 4);
        CHECK.told("it stays, and is not counted", x, 1, 0, 0, 2, 0, 0, 0);
        x.close(1, 1);
        CHECK.due("the half gone, the cookie counts", x.ack(1, 1, 2, a), 5);
    }

    private static void ofACookie() {
        CookieListener x = Steps.withCookies();
        int a = (int) x.syn(1, 1, 50, 1460) + 1;
        CHECK.due("another s", x.ack(1, 1, 50, a), 7);
        CHECK.due("another a", x.ack(1, 1, 51, a + 1), 7);
        CHECK.due("another port", x.ack(1, 2, 51, a), 7);
        CHECK.due("another address", x.ack(2, 1, 51, a), 7);
        CHECK.due("another class in it", x.ack(1, 1, 51, a - (1 << 24)), 7);
        CHECK.due("another slot in it", x.ack(1, 1, 51, a + (1 << 27)), 7);
        CHECK.told("seven counted", x, 0, 0, 0, 2, 0, 0, 6);
        CHECK.due("right", x.ack(1, 1, 51, a), 5);
        CHECK.told("open", x, 0, 1, 1, 2, 0, 1, 6);
        CHECK.due("once more", x.ack(1, 1, 51, a), 1);
        CHECK.due("the class comes from the cookie", x.take(), 1 + 65536 * 6);
        for (int kind = 0; kind < 8; kind++) {
            int c = (int) x.cookie(9, kind, 3, kind, 0);
            CHECK.due("a cookie of class " + kind, x.ack(9, kind, 4, c + 1), 5);
            CHECK.due("taken with class " + kind, x.take(), kind + 65536 * kind);
        }
    }

    private static void ofACookieWithoutRoom() {
        CookieListener x = Steps.withCookies();
        x.rooms(0, 1);
        Steps.open(x, 1, 1, 1, 1);
        int a = (int) x.syn(2, 2, 2, 2) + 1;
        CHECK.due("wrong cookie, no room", x.ack(2, 2, 3, a + 1), 7);
        CHECK.due("no room", x.ack(2, 2, 3, a), 6);
        CHECK.told("six is not counted", x, 0, 1, 1, 3, 0, 1, 1);
        CHECK.due("nothing is there", x.state(2, 2), 0);
        x.take();
        CHECK.due("room", x.ack(2, 2, 3, a), 5);
    }

    private static void slotsOfCookies() {
        for (int start : new int[] {0, 63, 64, 31 * 64, 32 * 64, 33 * 64 + 5}) {
            CookieListener x = Steps.withCookies();
            x.pass(start);
            int a = (int) x.syn(1, 1, 1, 1) + 1;
            int endOfNextSlot = (start / 64 + 2) * 64 - 1 - start;
            x.pass(endOfNextSlot);
            CHECK.due("one slot later, from " + start, x.ack(1, 1, 2, a), 5);
            x.close(1, 1);
            x.pass(1);
            x.syn(-77, 77, 77, 77);
            CHECK.due("two slots later, from " + start, x.ack(1, 1, 2, a), 7);
        }
        CookieListener y = Steps.withCookies();
        y.pass(64 * 40);
        y.syn(-77, 77, 77, 77);
        CHECK.due("the slot to come", y.ack(1, 1, 2, (int) y.cookie(1, 1, 1, 0, 41) + 1), 7);
        CHECK.due("32 slots before", y.ack(1, 1, 2, (int) y.cookie(1, 1, 1, 0, 8) + 1), 7);
        CHECK.due("two slots before", y.ack(1, 1, 2, (int) y.cookie(1, 1, 1, 0, 38) + 1), 7);
        CHECK.due("the slot before", y.ack(1, 1, 2, (int) y.cookie(1, 1, 1, 0, 39) + 1), 5);
        y.close(1, 1);
        CHECK.due("the slot now", y.ack(1, 1, 2, (int) y.cookie(1, 1, 1, 0, 40) + 1), 5);
    }

    private static void theSlotBelowZero() {
        CookieListener x = Steps.withCookies();
        long m = (1L << 32) + 1;
        long n = 1 - (1L << 20);
        int c = 31 << 27 | (int) x.hash(m, n) & 0xFFFFFF;
        CHECK.due("as if there were a slot -1", x.ack(1, 1, 2, c + 1), 7);
    }

    private static void cookiesTimeEnds() {
        CookieListener x = Steps.withCookies();
        x.pass(128);
        CHECK.due("128 ago, wrong", x.ack(1, 1, 1, 1), 7);
        CHECK.due("128 ago, right", x.ack(1, 1, 2, (int) x.cookie(1, 1, 1, 0, 2) + 1), 5);
        x.pass(1);
        CHECK.due("129 ago, right", x.ack(2, 1, 2, (int) x.cookie(2, 1, 1, 0, 2) + 1), 8);
        CHECK.due("129 ago, wrong", x.ack(2, 1, 2, 2), 8);
        CHECK.told("7 and 8 are counted", x, 0, 1, 1, 1, 0, 1, 3, 129);
        x.syn(-77, 77, 77, 77);
        CHECK.due("given again", x.ack(2, 1, 2, (int) x.cookie(2, 1, 1, 0, 2) + 1), 5);
        x.rooms(4, 16);
        x.pass(100);
        x.syn(3, 1, 1, 1);
        x.pass(29);
        CHECK.due("a half gives no cookies' time", x.ack(4, 1, 1, 1), 8);
    }

    private static void atMostSixtyFourOpen() {
        CookieListener x = new CookieListener();
        Steps.openAndTake(x, 63);
        int a = (int) x.syn(1, 1, 1, 1) + 1;
        x.rooms(0, 16);
        int b = (int) x.syn(2, 1, 1, 1) + 1;
        CHECK.due("the 64th", Steps.open(x, 3, 1, 1, 4096), 5);
        CHECK.due("the 65th, by a half", x.ack(1, 1, 2, a), 3);
        CHECK.due("the 65th, by a cookie", x.ack(2, 1, 2, b), 6);
        CHECK.told("64 open, one of them waits", x, 1, 1, 64, 2, 63, 1, 0);
        x.take();
        CHECK.due("taking makes no room", x.ack(1, 1, 2, a), 3);
        CHECK.due("nor for a cookie", x.ack(2, 1, 2, b), 6);
        CHECK.due("one is closed", x.close(1000, 1), 3);
        CHECK.due("that makes room", x.ack(2, 1, 2, b), 5);
        CHECK.due("for one", x.ack(1, 1, 2, a), 3);
        CHECK.due("the waiting one is closed", x.close(2, 1), 2);
        CHECK.due("that makes room too", x.ack(1, 1, 2, a), 2);
    }

    private static void theNumberOfAHalfIsNoCookie() {
        CookieListener x = new CookieListener();
        x.rooms(1, 2);
        int a = (int) x.syn(1, 1, 1, 1) + 1;
        x.syn(2, 1, 1, 1);
        x.pass(60);
        CHECK.due("the half is gone", x.ack(1, 1, 2, a), 7);
    }

    private static void wrongOnesAreRefused() {
        CookieListener x = new CookieListener();
        int a = (int) x.syn(0, 0, 1, 1) + 1;
        for (int port : new int[] {-1, 65536, Integer.MIN_VALUE, Integer.MAX_VALUE}) {
            CHECK.refused("ack(0, " + port + ", 2, a)", () -> x.ack(0, port, 2, a));
            CHECK.told("nothing changed", x, 1, 0, 0, 0, 0, 0, 0);
        }
        CHECK.due("port 0", x.ack(0, 0, 2, a), 2);
        CHECK.due("port 65535", Steps.open(x, 0, 65535, 1, 1), 2);
    }
}
