/** Promise 4: time goes by; halves that are too old are gone. */
public final class Promise04PassTest {
    private static final Check CHECK = new Check("Promise04PassTest");

    public static void main(String[] args) {
        answersTheTime();
        halvesGoAtSixty();
        eachHalfHasItsOwnAge();
        ageStaysWhenAskedAgain();
        anotherNumberIsYoungAgain();
        openOnesDoNotAge();
        wrongOnesAreRefused();
        CHECK.end();
    }

    private static void answersTheTime() {
        CookieListener x = new CookieListener();
        CHECK.due("pass(0)", x.pass(0), 0);
        CHECK.due("pass(1)", x.pass(1), 1);
        CHECK.due("pass(10000)", x.pass(10000), 10001);
        CHECK.due("told(7)", x.told(7), 10001);
        CookieListener y = new CookieListener();
        for (int i = 1; i <= 511; i++) {
            CHECK.due("pass(10000) again", y.pass(10000), 10000 * i);
        }
    }

    private static void halvesGoAtSixty() {
        CookieListener x = new CookieListener();
        long answer = x.syn(1, 1, 1, 1);
        x.pass(59);
        CHECK.due("at 59", x.state(1, 1), 1);
        CHECK.due("at 59 it opens", x.ack(1, 1, 2, (int) answer + 1), 2);
        CookieListener y = new CookieListener();
        y.syn(1, 1, 1, 1);
        y.pass(59);
        y.pass(0);
        CHECK.told("at 59", y, 1);
        y.pass(1);
        CHECK.told("at 60", y, 0);
        CHECK.due("at 60", y.ack(1, 1, 2, (int) answer + 1), 8);
        y.syn(1, 1, 1, 1);
        y.pass(10000);
        CHECK.told("long after", y, 0);
    }

    private static void eachHalfHasItsOwnAge() {
        CookieListener x = new CookieListener();
        x.rooms(32, 2);
        for (int i = 0; i < 32; i++) {
            x.syn(i, 1, 1, 1);
            x.pass(1);
        }
        x.pass(27);
        CHECK.told("at 59", x, 32);
        for (int i = 0; i < 32; i++) {
            x.pass(1);
            CHECK.told("at " + (60 + i), x, 31 - i);
            CHECK.due("gone at " + (60 + i), x.state(i, 1), 0);
            CHECK.due("the next stays", x.state(i + 1, 1), i < 31 ? 1 : 0);
        }
        CookieListener y = new CookieListener();
        y.syn(1, 1, 1, 1);
        y.pass(30);
        y.syn(2, 1, 1, 1);
        y.close(1, 1);
        y.syn(1, 1, 1, 1);
        y.syn(3, 1, 1, 1);
        y.pass(59);
        CHECK.told("three of age 59", y, 3);
        y.pass(1);
        CHECK.told("all at once", y, 0);
    }

    private static void ageStaysWhenAskedAgain() {
        CookieListener x = new CookieListener();
        x.syn(1, 1, 1, 1);
        x.pass(40);
        x.syn(1, 1, 1, 1);
        x.pass(20);
        CHECK.due("60 after the first", x.state(1, 1), 0);
    }

    private static void anotherNumberIsYoungAgain() {
        CookieListener x = new CookieListener();
        x.syn(1, 1, 1, 1);
        x.pass(40);
        x.syn(1, 1, 2, 1);
        x.pass(59);
        CHECK.due("59 after the second", x.state(1, 1), 1);
        x.pass(1);
        CHECK.due("60 after the second", x.state(1, 1), 0);
    }

    private static void openOnesDoNotAge() {
        CookieListener x = new CookieListener();
        Steps.open(x, 1, 1, 1, 1);
        Steps.open(x, 2, 1, 1, 1);
        x.take();
        x.pass(10000);
        CHECK.due("taken", x.state(1, 1), 3);
        CHECK.due("waits", x.state(2, 1), 2);
    }

    private static void wrongOnesAreRefused() {
        CookieListener x = new CookieListener();
        x.syn(1, 1, 1, 1);
        x.pass(7);
        for (int seconds : new int[] {-1, 10001, Integer.MIN_VALUE, Integer.MAX_VALUE}) {
            CHECK.refused("pass(" + seconds + ")", () -> x.pass(seconds));
            CHECK.told("nothing changed", x, 1, 0, 0, 0, 0, 0, 0, 7);
        }
    }
}
