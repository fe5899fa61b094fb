/** Promise 7: the first one of the queue is taken. */
public final class Promise07TakeTest {
    private static final Check CHECK = new Check("Promise07TakeTest");

    public static void main(String[] args) {
        noneIsThere();
        firstComeFirstTaken();
        portsAndClasses();
        closedOnesAreLeftOut();
        longRuns();
        CHECK.end();
    }

    private static void noneIsThere() {
        CookieListener x = new CookieListener();
        CHECK.due("new", x.take(), -1);
        x.syn(1, 1, 1, 1);
        CHECK.due("only a half", x.take(), -1);
        Steps.open(x, 2, 2, 2, 2);
        x.take();
        CHECK.due("taken already", x.take(), -1);
        CHECK.told("nothing changed", x, 1, 0, 1);
    }

    private static void firstComeFirstTaken() {
        CookieListener x = new CookieListener();
        x.rooms(16, 16);
        int[] a = new int[16];
        for (int i = 0; i < 16; i++) {
            a[i] = (int) x.syn(i, i, i, 64) + 1;
        }
        for (int i = 15; i >= 0; i--) {
            x.ack(i, i, i + 1, a[i]);
        }
        for (int i = 15; i >= 0; i--) {
            CHECK.due("in the order of acks", x.take(), i);
            CHECK.due("it is taken", x.state(i, i), 3);
            CHECK.told("one waits less, all are open", x, 0, i, 16);
        }
    }

    private static void portsAndClasses() {
        CookieListener x = new CookieListener();
        Steps.open(x, -1, 65535, 1, 65535);
        CHECK.due("the greatest", x.take(), 65535 + 65536 * 7);
        x.rooms(0, 1);
        Steps.open(x, -2, 0, 1, 1024);
        CHECK.due("by a cookie", x.take(), 65536 * 3);
        Steps.open(x, -3, 0, 1, 0);
        CHECK.due("the least", x.take(), 0);
    }

    private static void closedOnesAreLeftOut() {
        CookieListener x = new CookieListener();
        x.rooms(4, 4);
        for (int i = 1; i <= 4; i++) {
            Steps.open(x, i, i, i, 64);
        }
        x.close(1, 1);
        x.close(3, 3);
        CHECK.due("second", x.take(), 2);
        x.close(2, 2);
        CHECK.due("fourth", x.take(), 4);
        CHECK.due("none", x.take(), -1);
    }

    private static void longRuns() {
        CookieListener x = new CookieListener();
        for (int i = 0; i < 100; i++) {
            CHECK.due("opens", Steps.open(x, i, 100 + i, i, 300), 2);
            CHECK.due("takes", x.take(), 100 + i + 65536);
            CHECK.due("closes", x.close(i, 100 + i), 3);
        }
        CHECK.told("all closed", x, 0, 0, 0, 0, 100);
    }
}
