/** Promise 12: what is told, each figure moved by what it counts and by nothing else. */
public final class Promise12ToldTest {
    private static final Check CHECK = new Check("Promise12ToldTest");

    public static void main(String[] args) {
        figuresMove();
        wrongOnesAreRefused();
        CHECK.end();
    }

    private static void figuresMove() {
        CookieListener x = new CookieListener();
        x.rooms(2, 2);
        int a = (int) x.syn(1, 1, 1, 1) + 1;
        CHECK.told("a half", x, 1, 0, 0, 0, 0, 0, 0, 0);
        x.syn(2, 1, 1, 1);
        int c = (int) x.syn(3, 1, 1, 1) + 1;
        CHECK.told("two halves and a cookie", x, 2, 0, 0, 1, 0, 0, 0, 0);
        x.ack(1, 1, 2, a);
        CHECK.told("opened by a half", x, 1, 1, 1, 1, 1, 0, 0, 0);
        x.ack(3, 1, 2, c);
        CHECK.told("opened by a cookie", x, 1, 2, 2, 1, 1, 1, 0, 0);
        x.take();
        CHECK.told("taken", x, 1, 1, 2, 1, 1, 1, 0, 0);
        x.ack(4, 1, 2, 2);
        CHECK.told("answer 7", x, 1, 1, 2, 1, 1, 1, 1, 0);
        x.pass(59);
        x.pass(70);
        CHECK.told("time, and the half is gone", x, 0, 1, 2, 1, 1, 1, 1, 129);
        x.ack(4, 1, 2, 2);
        CHECK.told("answer 8", x, 0, 1, 2, 1, 1, 1, 2, 129);
        x.close(1, 1);
        CHECK.told("the taken one closed", x, 0, 1, 1, 1, 1, 1, 2, 129);
        x.close(3, 1);
        CHECK.told("the waiting one closed", x, 0, 0, 0, 1, 1, 1, 2, 129);
    }

    private static void wrongOnesAreRefused() {
        CookieListener x = new CookieListener();
        for (int what : new int[] {-1, 8, Integer.MIN_VALUE, Integer.MAX_VALUE}) {
            CHECK.refused("told(" + what + ")", () -> x.told(what));
        }
        CHECK.told("nothing changed", x, 0, 0, 0, 0, 0, 0, 0, 0);
    }
}
