/** "An object is used for at most 512 calls": each figure as high as that many calls bring it. */
public final class FullLifeTest {
    private static final Check CHECK = new Check("FullLifeTest");

    public static void main(String[] args) {
        cookiesGiven();
        answersSevenAndEight();
        openedByHalves();
        openedByCookies();
        theTime();
        CHECK.end();
    }

    private static void cookiesGiven() {
        CookieListener x = new CookieListener();
        x.rooms(0, 1);
        for (int i = 0; i < 510; i++) {
            x.syn(i, i, i, i);
        }
        CHECK.due("cookies given", x.told(3), 510);
    }

    private static void answersSevenAndEight() {
        CookieListener x = new CookieListener();
        for (int i = 0; i < 255; i++) {
            CHECK.due("never given", x.ack(i, i, i, i), 8);
        }
        x.rooms(0, 1);
        Steps.giveACookie(x);
        for (int i = 0; i < 254; i++) {
            CHECK.due("wrong", x.ack(i, i, i, i), 7);
        }
        CHECK.due("answers 7 and 8", x.told(6), 509);
    }

    private static void openedByHalves() {
        CookieListener x = new CookieListener();
        for (int i = 0; i < 170; i++) {
            CHECK.due("opens", Steps.open(x, i, i, i, i), 2);
            CHECK.due("closed", x.close(i, i), 2);
        }
        CHECK.due("opened by halves", x.told(4), 170);
        CHECK.due("none is open", x.told(2), 0);
    }

    private static void openedByCookies() {
        CookieListener x = new CookieListener();
        x.rooms(0, 1);
        for (int i = 0; i < 170; i++) {
            CHECK.due("opens", Steps.open(x, i, i, i, i), 5);
            CHECK.due("closed", x.close(i, i), 2);
        }
        CHECK.due("opened by cookies", x.told(5), 170);
    }

    /** Cookies are good in the last slot that an object can come to. */
    private static void theTime() {
        CookieListener x = new CookieListener();
        x.rooms(0, 1);
        for (int i = 1; i <= 505; i++) {
            CHECK.due("pass", x.pass(10000), i * 10000);
        }
        CHECK.due("the time", x.told(7), 5050000);
        long cookie = x.syn(1, 1, 1, 64);
        CHECK.due("its slot", cookie, x.cookie(1, 1, 1, 0, 78906));
        x.pass(64);
        CHECK.due("a slot later", Steps.ack(x, 1, 1, 1, cookie), 5);
    }
}
