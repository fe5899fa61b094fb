/** Promise 1: size 4, room 2, key 0 0; nothing there; cookies were never given. */
public final class Promise01NewObjectTest {
    private static final Check CHECK = new Check("Promise01NewObjectTest");

    public static void main(String[] args) {
        nothingIsThere();
        keyIsZero();
        sizeIsFour();
        roomIsTwo();
        cookiesWereNeverGiven();
        eachObjectIsByItself();
        CHECK.end();
    }

    private static void nothingIsThere() {
        CookieListener x = new CookieListener();
        CHECK.told("new", x, 0, 0, 0, 0, 0, 0, 0, 0);
        CHECK.due("take", x.take(), -1);
        CHECK.due("state of caller 0 0", x.state(0, 0), 0);
        CHECK.due("close of caller 0 0", x.close(0, 0), 0);
    }

    private static void keyIsZero() {
        CookieListener x = new CookieListener();
        CookieListener y = new CookieListener();
        y.key(0, 0);
        CHECK.due("hash(5, 6)", x.hash(5, 6), y.hash(5, 6));
        CHECK.due("hash(0, 0)", x.hash(0, 0), 3659997967308761462L);
    }

    private static void sizeIsFour() {
        CookieListener x = new CookieListener();
        for (int i = 0; i < 5; i++) {
            x.syn(i, i, i, i);
        }
        CHECK.told("after five syns", x, 4, 0, 0, 1);
        CHECK.due("the fourth", x.state(3, 3), 1);
        CHECK.due("the fifth", x.state(4, 4), 0);
    }

    private static void roomIsTwo() {
        CookieListener x = new CookieListener();
        CHECK.due("first", Steps.open(x, 1, 1, 1, 1), 2);
        CHECK.due("second", Steps.open(x, 2, 1, 1, 1), 2);
        CHECK.due("third", Steps.open(x, 3, 1, 1, 1), 3);
        CHECK.told("after three", x, 1, 2, 2);
    }

    private static void cookiesWereNeverGiven() {
        CookieListener x = new CookieListener();
        int a = (int) x.cookie(1, 1, 1, 0, 0) + 1;
        CHECK.due("a cookie that was not given, at 0", x.ack(1, 1, 2, a), 8);
        x.pass(63);
        CHECK.due("a cookie that was not given, at 63", x.ack(1, 1, 2, a), 8);
    }

    /** A new object is new also beside one that is in use, and leaves that one as it is. */
    private static void eachObjectIsByItself() {
        CookieListener used = inUse();
        long half = used.syn(3, 3, 3, 1460);
        long cookie = used.syn(4, 4, 4, 4096);
        CookieListener x = new CookieListener();
        CHECK.told("new beside one in use", x, 0, 0, 0, 0, 0, 0, 0, 0);
        CHECK.due("its key", x.hash(0, 0), 3659997967308761462L);
        CHECK.due("nothing waits", x.take(), -1);
        for (int caller = 1; caller <= 4; caller++) {
            CHECK.due("state of " + caller, x.state(caller, caller), 0);
        }
        CHECK.due("a half's number of the other", Steps.ack(x, 3, 3, 3, half), 8);
        CHECK.due("a cookie of the other", Steps.ack(x, 4, 4, 4, cookie), 8);
        changeAll(x);
        CHECK.told("the one in use", used, 1, 1, 2, 1, 2, 0, 0, 100);
        CHECK.due("the key of the one in use", used.hash(5, 6), Model.sipHash(7, 8, 5, 6));
        CHECK.due("its taken one", used.state(1, 1), 3);
        CHECK.due("its waiting one", used.state(2, 2), 2);
        CHECK.due("its half, once more", used.syn(3, 3, 3, 64), half);
        CHECK.due("its half opens", Steps.ack(used, 3, 3, 3, half), 2);
        CHECK.due("its cookie opens", Steps.ack(used, 4, 4, 4, cookie), 5);
        itsRoomsAreItsOwn(used);
        CHECK.due("its queue, first", used.take(), 2 + 65536);
        CHECK.due("its queue, second", used.take(), 3 + 65536 * 6);
        CHECK.due("its queue, third", used.take(), 4 + 65536 * 7);
        CHECK.due("its queue, no more", used.take(), -1);
        used.pass(128);
        CHECK.due("128 after its last cookie", used.ack(9, 9, 9, 9), 7);
        x.rooms(0, 1);
        Steps.giveACookie(x);
        used.pass(1);
        CHECK.due("129 after its last cookie", used.ack(9, 9, 9, 9), 8);
    }

    /** Size 1 and room 3, of which three wait. */
    private static void itsRoomsAreItsOwn(CookieListener used) {
        CHECK.due("room for one half, but none that may wait", Steps.open(used, 5, 5, 5, 64), 3);
        CHECK.due("no room for a second half", used.syn(6, 6, 6, 64), used.cookie(6, 6, 6, 0, 1));
    }

    /** Room for one half and three that wait, caller 1 taken, caller 2 waits, at the time 100. */
    private static CookieListener inUse() {
        CookieListener x = new CookieListener();
        x.key(7, 8);
        x.rooms(1, 3);
        x.pass(100);
        Steps.open(x, 1, 1, 1, 64);
        Steps.open(x, 2, 2, 2, 256);
        x.take();
        return x;
    }

    private static void changeAll(CookieListener x) {
        x.key(-1, -2);
        x.rooms(0, 1);
        x.pass(777);
        Steps.open(x, 1, 1, 9, 536);
        x.take();
        x.close(1, 1);
        Steps.open(x, 2, 2, 9, 536);
        x.close(2, 2);
        x.rooms(32, 16);
        x.syn(3, 3, 9, 536);
        x.pass(60);
        x.syn(4, 4, 9, 536);
    }
}
