/** Promise 3: the key; what is there stays. */
public final class Promise03KeyTest {
    private static final Check CHECK = new Check("Promise03KeyTest");

    public static void main(String[] args) {
        bothHalvesOfTheKeyCount();
        halvesStay();
        openOnesStay();
        cookiesOfAnotherKeyAreWrong();
        CHECK.end();
    }

    private static void bothHalvesOfTheKeyCount() {
        CookieListener x = new CookieListener();
        x.key(0x0706050403020100L, 0x0f0e0d0c0b0a0908L);
        CHECK.due("the published answer", x.hash(0x0706050403020100L, 0x0f0e0d0c0b0a0908L), 0x3f2acc7f57c29bdbL);
        x.key(-1, Long.MIN_VALUE);
        CHECK.due("hash(-1, -1)", x.hash(-1, -1), 8894121386238646284L);
        x.key(1, 0);
        long first = x.hash(3, 4);
        x.key(0, 1);
        CHECK.yes("k and l are not the same", first != x.hash(3, 4));
    }

    private static void halvesStay() {
        CookieListener x = new CookieListener();
        long before = x.syn(1, 2, 3, 1460);
        x.key(8, 9);
        CHECK.told("after key", x, 1);
        CHECK.due("the same number once more", x.syn(1, 2, 3, 1460), before);
        CHECK.due("and it opens", x.ack(1, 2, 4, (int) before + 1), 2);
        CHECK.due("with its class", x.take(), 2 + 65536 * 6);
    }

    private static void openOnesStay() {
        CookieListener x = new CookieListener();
        Steps.open(x, 1, 2, 3, 64);
        Steps.open(x, 2, 3, 4, 64);
        x.take();
        x.key(-5, -6);
        CHECK.due("taken", x.state(1, 2), 3);
        CHECK.due("waits", x.state(2, 3), 2);
    }

    private static void cookiesOfAnotherKeyAreWrong() {
        CookieListener x = Steps.withCookies();
        int a = (int) x.syn(1, 2, 3, 1460) + 1;
        x.key(8, 9);
        CHECK.due("under another key", x.ack(1, 2, 4, a), 7);
        x.key(0, 0);
        CHECK.due("under the old key again", x.ack(1, 2, 4, a), 5);
    }
}
