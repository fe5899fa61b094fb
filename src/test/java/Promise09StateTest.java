/** Promise 9: what is there of a caller. */
public final class Promise09StateTest {
    private static final Check CHECK = new Check("Promise09StateTest");

    public static void main(String[] args) {
        byAHalf();
        byACookie();
        wrongOnesAreRefused();
        CHECK.end();
    }

    private static void byAHalf() {
        CookieListener x = new CookieListener();
        CHECK.due("nothing", x.state(7, 65535), 0);
        int a = (int) x.syn(7, 65535, 1, 1) + 1;
        CHECK.due("a half", x.state(7, 65535), 1);
        CHECK.due("another address", x.state(8, 65535), 0);
        CHECK.due("another port", x.state(7, 65534), 0);
        x.ack(7, 65535, 2, a);
        CHECK.due("it waits", x.state(7, 65535), 2);
        x.take();
        CHECK.due("it was taken", x.state(7, 65535), 3);
        x.close(7, 65535);
        CHECK.due("nothing again", x.state(7, 65535), 0);
        CHECK.told("asking changed nothing", x, 0, 0, 0, 0, 1, 0, 0, 0);
    }

    private static void byACookie() {
        CookieListener x = Steps.withCookies();
        int a = (int) x.syn(7, 0, 1, 1) + 1;
        CHECK.due("a cookie is not kept", x.state(7, 0), 0);
        x.ack(7, 0, 2, a);
        CHECK.due("it waits", x.state(7, 0), 2);
        x.take();
        CHECK.due("it was taken", x.state(7, 0), 3);
    }

    private static void wrongOnesAreRefused() {
        CookieListener x = new CookieListener();
        x.syn(0, 0, 1, 1);
        for (int port : new int[] {-1, 65536, Integer.MIN_VALUE, Integer.MAX_VALUE}) {
            CHECK.refused("state(0, " + port + ")", () -> x.state(0, port));
        }
        CHECK.due("port 0", x.state(0, 0), 1);
        CHECK.due("port 65535", x.state(0, 65535), 0);
    }
}
