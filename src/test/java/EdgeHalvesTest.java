/** The edges of HALVES: up to SIZE of them, up to 60 seconds old. */
public final class EdgeHalvesTest {
    private static final Check CHECK = new Check("EdgeHalvesTest");

    public static void main(String[] args) {
        upToSize();
        upToSizeAsTheyGoAndCome();
        noneWhenSizeIsZero();
        goneAtSixty();
        goneAtOnceWhenMuchTimeGoesBy();
        goneForEveryCall();
        roomAtSixty();
        theAgeStays();
        CHECK.end();
    }

    /** "up to so many (SIZE)": the last that has room is kept, the next is not. */
    private static void upToSize() {
        for (int size = 1; size <= 32; size++) {
            CookieListener x = new CookieListener();
            x.rooms(size, 1);
            for (int i = 0; i < size; i++) {
                CHECK.due("size " + size + ", half " + i, x.syn(i, 3, 9, 64), x.cookie(i, 3, 9, 0, 0) ^ 0xFF000000L);
            }
            CHECK.told("full, no cookie yet", x, size, 0, 0, 0);
            CHECK.due("one too many for " + size, x.syn(99, 3, 9, 64), x.cookie(99, 3, 9, 0, 0));
            CHECK.told("still full, one cookie", x, size, 0, 0, 1);
            CHECK.due("the last one is kept", x.state(size - 1, 3), 1);
            CHECK.due("the one too many is not", x.state(99, 3), 0);
        }
    }

    private static void upToSizeAsTheyGoAndCome() {
        CookieListener x = new CookieListener();
        x.rooms(32, 16);
        for (int i = 0; i < 32; i++) {
            x.syn(i, 3, 9, 64);
        }
        for (int i = 0; i < 32; i++) {
            CHECK.due("one goes", x.close(i, 3), 1);
            x.syn(100 + i, 3, 9, 64);
            CHECK.due("one comes", x.state(100 + i, 3), 1);
            x.syn(200 + i, 3, 9, 64);
            CHECK.due("no second", x.state(200 + i, 3), 0);
        }
        CHECK.told("32 halves, 32 cookies", x, 32, 0, 0, 32);
        long again = x.syn(131, 3, 9, 64);
        CHECK.due("one opens", Steps.ack(x, 131, 3, 9, again), 2);
        x.syn(300, 3, 9, 64);
        CHECK.due("that made room for one", x.state(300, 3), 1);
        x.syn(301, 3, 9, 64);
        CHECK.due("and for no second", x.state(301, 3), 0);
    }

    private static void noneWhenSizeIsZero() {
        CookieListener x = new CookieListener();
        x.rooms(0, 1);
        CHECK.due("a cookie", x.syn(1, 1, 1, 1), x.cookie(1, 1, 1, 0, 0));
        CHECK.told("no half", x, 0, 0, 0, 1);
        x.rooms(1, 1);
        CHECK.due("a half", x.syn(1, 1, 1, 1), x.cookie(1, 1, 1, 0, 0) ^ 0xFF000000L);
        CHECK.told("one half", x, 1, 0, 0, 1);
    }

    /** "up to 60 seconds old (at 60 it is gone)": whenever it was asked, and however the time goes by. */
    private static void goneAtSixty() {
        for (int asked : new int[] {0, 1, 4, 5, 59, 60, 63, 64, 127, 12345}) {
            CookieListener x = Steps.at(asked);
            x.syn(1, 1, 1, 1);
            x.pass(0);
            x.pass(58);
            x.pass(1);
            CHECK.due("59 old, asked at " + asked, x.state(1, 1), 1);
            CHECK.told("59 old, asked at " + asked, x, 1);
            x.pass(0);
            CHECK.due("still 59 old, asked at " + asked, x.state(1, 1), 1);
            x.pass(1);
            CHECK.due("60 old, asked at " + asked, x.state(1, 1), 0);
            CHECK.told("60 old, asked at " + asked, x, 0);
        }
    }

    private static void goneAtOnceWhenMuchTimeGoesBy() {
        for (int seconds : new int[] {0, 59, 60, 61, 64, 119, 120, 10000}) {
            CookieListener x = new CookieListener();
            x.rooms(32, 1);
            for (int i = 0; i < 32; i++) {
                x.syn(i, 1, 1, 1);
            }
            x.pass(seconds);
            CHECK.told("32 halves after " + seconds, x, seconds < 60 ? 32 : 0, 0, 0, 0, 0, 0, 0, seconds);
        }
    }

    /** Each call that looks at halves, at 59 and at 60. */
    private static void goneForEveryCall() {
        for (int age = 59; age <= 60; age++) {
            boolean there = age == 59;
            CookieListener x = aHalfThatIsOld(age);
            CHECK.due("close at " + age, x.close(1, 1), there ? 1 : 0);
            CookieListener y = aHalfThatIsOld(age);
            CHECK.due("right ack at " + age, Steps.ack(y, 1, 1, 1, y.cookie(1, 1, 1, 6, 0) ^ 0xFF000000L), there ? 2 : 8);
            CookieListener z = aHalfThatIsOld(age);
            CHECK.due("wrong ack at " + age, z.ack(1, 1, 2, 2), there ? 4 : 8);
            CookieListener w = aHalfThatIsOld(age);
            w.syn(1, 1, 1, 64);
            w.pass(1);
            CHECK.due("asked again at " + age + ", one second later", w.told(0), there ? 0 : 1);
        }
    }

    private static CookieListener aHalfThatIsOld(int age) {
        CookieListener x = new CookieListener();
        x.syn(1, 1, 1, 1460);
        x.pass(age);
        return x;
    }

    /** What is gone leaves room: the next SYN gets a cookie at 59, and a half at 60. */
    private static void roomAtSixty() {
        CookieListener x = new CookieListener();
        x.rooms(2, 1);
        x.syn(1, 1, 1, 1);
        x.pass(10);
        x.syn(2, 1, 1, 1);
        x.pass(49);
        CHECK.due("full at 59", x.syn(3, 1, 1, 1), x.cookie(3, 1, 1, 0, 0));
        x.pass(1);
        CHECK.due("room at 60", x.syn(3, 1, 1, 1), x.cookie(3, 1, 1, 0, 0) ^ 0xFF000000L);
        CHECK.due("for one", x.syn(4, 1, 1, 1), x.cookie(4, 1, 1, 0, 0));
        CHECK.due("the first is gone", x.state(1, 1), 0);
        CHECK.due("the second is there", x.state(2, 1), 1);
    }

    /** "(its age stays)", "(it stays)", "what is there stays": nothing of this makes a half younger or older. */
    private static void theAgeStays() {
        CookieListener x = new CookieListener();
        x.rooms(4, 1);
        Steps.open(x, 9, 9, 9, 9);
        long half = x.syn(1, 1, 1, 1);
        x.pass(30);
        CHECK.due("the same SYN", x.syn(1, 1, 1, 1), half);
        CHECK.due("no room", Steps.ack(x, 1, 1, 1, half), 3);
        CHECK.due("wrong", x.ack(1, 1, 1, 1), 4);
        x.rooms(0, 1);
        x.key(5, 6);
        CHECK.due("state", x.state(1, 1), 1);
        x.pass(29);
        CHECK.due("at 59", x.state(1, 1), 1);
        x.syn(1, 1, 1, 1);
        Steps.ack(x, 1, 1, 1, half);
        x.pass(1);
        CHECK.due("at 60", x.state(1, 1), 0);
    }
}
