/** Promise 8: a caller is open no more, its half is gone. */
public final class Promise08CloseTest {
    private static final Check CHECK = new Check("Promise08CloseTest");
    /** A size of each class, so that every caller of nineCallers() but the last has a class of its own. */
    private static final int[] SIZES = {64, 256, 536, 1024, 1220, 1440, 1460, 4096};

    public static void main(String[] args) {
        eachAnswer();
        othersStay();
        countsStay();
        wrongOnesAreRefused();
        CHECK.end();
    }

    private static void eachAnswer() {
        CookieListener x = new CookieListener();
        CHECK.due("nothing", x.close(1, 1), 0);
        long answer = x.syn(1, 1, 1, 1);
        CHECK.due("another port", x.close(1, 2), 0);
        CHECK.due("another address", x.close(2, 1), 0);
        CHECK.due("a half", x.close(1, 1), 1);
        CHECK.due("gone", x.ack(1, 1, 2, (int) answer + 1), 8);
        CHECK.due("again", x.close(1, 1), 0);
        Steps.open(x, 1, 1, 1, 1);
        CHECK.due("waits", x.close(1, 1), 2);
        CHECK.due("not in the queue", x.take(), -1);
        CHECK.due("again", x.close(1, 1), 0);
        Steps.open(x, 1, 1, 1, 1);
        x.take();
        CHECK.due("taken", x.close(1, 1), 3);
        CHECK.due("again", x.close(1, 1), 0);
        CHECK.told("nothing is there", x, 0, 0, 0);
    }

    private static void othersStay() {
        for (int gone = 0; gone < 9; gone++) {
            CookieListener x = nineCallers();
            CHECK.due("close " + gone, x.close(gone, gone), 3 - gone / 3);
            for (int i = 0; i < 9; i++) {
                CHECK.due("state of " + i + " without " + gone, x.state(i, i), i == gone ? 0 : 3 - i / 3);
            }
            CHECK.told("without " + gone, x, gone / 3 == 2 ? 2 : 3, gone / 3 == 1 ? 2 : 3, gone / 3 == 2 ? 6 : 5);
            for (int i = 3; i < 6; i++) {
                if (i != gone) {
                    CHECK.due("take without " + gone, x.take(), i + 65536 * i);
                }
            }
            CHECK.due("no more without " + gone, x.take(), -1);
            x.rooms(4, 16);
            for (int i = 6; i < 9; i++) {
                if (i != gone) {
                    int a = (int) (x.cookie(i, i, i, i % 8, 0) ^ 0xFF000000L) + 1;
                    CHECK.due("half " + i + " without " + gone, x.ack(i, i, i + 1, a), 2);
                    CHECK.due("class of " + i, x.take(), i + 65536 * (i % 8));
                }
            }
        }
    }

    /** Callers 0 to 2 are taken, 3 to 5 wait, 6 to 8 are halves. */
    private static CookieListener nineCallers() {
        CookieListener x = new CookieListener();
        x.rooms(4, 6);
        for (int i = 0; i < 6; i++) {
            Steps.open(x, i, i, i, SIZES[i]);
        }
        for (int i = 0; i < 3; i++) {
            x.take();
        }
        for (int i = 6; i < 9; i++) {
            x.syn(i, i, i, SIZES[i % 8]);
        }
        return x;
    }

    private static void countsStay() {
        CookieListener x = new CookieListener();
        Steps.open(x, 1, 1, 1, 1);
        x.rooms(0, 2);
        Steps.open(x, 2, 2, 2, 2);
        x.close(1, 1);
        x.close(2, 2);
        CHECK.told("counts stay", x, 0, 0, 0, 1, 1, 1, 0);
    }

    private static void wrongOnesAreRefused() {
        CookieListener x = nineCallers();
        for (int port : new int[] {-1, 65536, Integer.MIN_VALUE, Integer.MAX_VALUE}) {
            CHECK.refused("close(0, " + port + ")", () -> x.close(0, port));
            CHECK.told("nothing changed", x, 3, 3, 6);
        }
        CHECK.due("port 0", x.close(0, 0), 3);
        Steps.open(x, 0, 65535, 1, 1);
        CHECK.due("port 65535", x.close(0, 65535), 2);
    }
}
