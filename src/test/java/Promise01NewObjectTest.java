/** Promise 1: size 4, room 2, key 0 0; nothing there; cookies were never given. */
public final class Promise01NewObjectTest {
    private static final Check CHECK = new Check("Promise01NewObjectTest");

    public static void main(String[] args) {
        nothingIsThere();
        keyIsZero();
        sizeIsFour();
        roomIsTwo();
        cookiesWereNeverGiven();
        CHECK.end();
    }

    private static void nothingIsThere() {
        CookieListener x = new CookieListener();
        CHECK.told("new", x, 0, 0, 0, 0, 0, 0, 0, 0);
        CHECK.due("take", x.take(), -1);
        CHECK.due("state of caller 0 0", x.state(0, 0), 0);
        CHECK.due("close of caller 0 0", x.close(0, 0), 0);
    }

    private static void keyIsZero() {
        CookieListener x = new CookieListener();
        CookieListener y = new CookieListener();
        y.key(0, 0);
        CHECK.due("hash(5, 6)", x.hash(5, 6), y.hash(5, 6));
        CHECK.due("hash(0, 0)", x.hash(0, 0), 3659997967308761462L);
    }

    private static void sizeIsFour() {
        CookieListener x = new CookieListener();
        for (int i = 0; i < 5; i++) {
            x.syn(i, i, i, i);
        }
        CHECK.told("after five syns", x, 4, 0, 0, 1);
        CHECK.due("the fourth", x.state(3, 3), 1);
        CHECK.due("the fifth", x.state(4, 4), 0);
    }

    private static void roomIsTwo() {
        CookieListener x = new CookieListener();
        CHECK.due("first", Steps.open(x, 1, 1, 1, 1), 2);
        CHECK.due("second", Steps.open(x, 2, 1, 1, 1), 2);
        CHECK.due("third", Steps.open(x, 3, 1, 1, 1), 3);
        CHECK.told("after three", x, 1, 2, 2);
    }

    private static void cookiesWereNeverGiven() {
        CookieListener x = new CookieListener();
        int a = (int) x.cookie(1, 1, 1, 0, 0) + 1;
        CHECK.due("a cookie that was not given, at 0", x.ack(1, 1, 2, a), 8);
        x.pass(63);
        CHECK.due("a cookie that was not given, at 63", x.ack(1, 1, 2, a), 8);
    }
}
