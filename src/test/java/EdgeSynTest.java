/** The edges of A SYN: open callers, halves with that number and with another, room for a half and none. */
public final class EdgeSynTest {
    private static final Check CHECK = new Check("EdgeSynTest");
    private static final long TURNED = 0xFF000000L;

    public static void main(String[] args) {
        ofOneThatWaits();
        ofOneThatIsTaken();
        ofOneThatIsOpenNoMore();
        withThatNumber();
        withThatNumberThoughAllElseChanged();
        withThatNumberTheCookiesTimeStays();
        withAnotherNumber();
        withAnotherNumberByOne();
        withAnotherNumberWhenFull();
        withAnotherNumberBeyondSize();
        withoutRoomNothingIsKept();
        withoutRoomTheCookiesTimeIsNow();
        withRoomTheCookiesTimeStays();
        answersAreWithoutSign();
        CHECK.end();
    }

    /** "of a caller that is open: nothing (-1)". */
    private static void ofOneThatWaits() {
        CookieListener x = new CookieListener();
        Steps.open(x, 1, 1, 1, 1460);
        CHECK.due("state", x.state(1, 1), 2);
        nothingFor(x, 1);
        CHECK.told("nothing changed", x, 0, 1, 1, 0, 1, 0, 0, 0);
        CHECK.due("its class stays", x.take(), 1 + 65536 * 6);
    }

    private static void ofOneThatIsTaken() {
        CookieListener x = new CookieListener();
        Steps.open(x, 1, 1, 1, 1460);
        x.take();
        CHECK.due("state", x.state(1, 1), 3);
        nothingFor(x, 1);
        CHECK.told("nothing changed", x, 0, 0, 1, 0, 1, 0, 0, 0);
        CHECK.due("not in the queue again", x.take(), -1);
    }

    /** Whether there is room for a half or none: neither a half nor a cookie comes, and no cookies' time. */
    private static void nothingFor(CookieListener x, int address) {
        CHECK.due("NONE is -1", CookieListener.NONE, -1);
        for (int size : new int[] {4, 0}) {
            x.rooms(size, 2);
            CHECK.due("the same number, size " + size, x.syn(address, 1, 1, 1460), -1);
            CHECK.due("another number, size " + size, x.syn(address, 1, 2, 64), -1);
        }
        CHECK.told("no half, no cookie", x, 0, x.told(1), 1, 0, 1, 0, 0, 0);
    }

    private static void ofOneThatIsOpenNoMore() {
        CookieListener x = new CookieListener();
        Steps.open(x, 1, 1, 1, 1460);
        x.close(1, 1);
        CHECK.due("closed while it waited", x.syn(1, 1, 1, 64), x.cookie(1, 1, 1, 0, 0) ^ TURNED);
        CHECK.due("it opens", Steps.open(x, 1, 1, 1, 64), 2);
        x.take();
        x.close(1, 1);
        CHECK.due("closed when it was taken", x.syn(1, 1, 1, 256), x.cookie(1, 1, 1, 1, 0) ^ TURNED);
    }

    /** "One that has a half with that number: its listener's number once more (its age stays)". */
    private static void withThatNumber() {
        CookieListener x = new CookieListener();
        x.rooms(1, 2);
        long half = x.syn(1, 1, 5, 1460);
        for (int i = 0; i < 59; i++) {
            x.pass(1);
            CHECK.due("once more at " + (i + 1), x.syn(1, 1, 5, 1460), half);
            CHECK.told("one half, no cookie, at " + (i + 1), x, 1, 0, 0, 0);
        }
        x.pass(1);
        CHECK.told("gone at 60", x, 0, 0, 0, 0);
        x.pass(4);
        CHECK.due("a new one at 64", x.syn(1, 1, 5, 1460), x.cookie(1, 1, 5, 6, 1) ^ TURNED);
    }

    private static void withThatNumberThoughAllElseChanged() {
        CookieListener x = Steps.at(63);
        long half = x.syn(1, 1, 5, 1460);
        x.pass(1);
        CHECK.due("in another slot", x.syn(1, 1, 5, 1460), half);
        x.key(1, 2);
        CHECK.due("under another key", x.syn(1, 1, 5, 1460), half);
        CHECK.due("with another size", x.syn(1, 1, 5, 64), half);
        x.rooms(0, 2);
        CHECK.due("without room for halves", x.syn(1, 1, 5, 64), half);
        CHECK.told("no cookie", x, 1, 0, 0, 0);
        CHECK.due("no cookies' time", x.ack(2, 2, 2, 2), 8);
        CHECK.due("it opens", Steps.ack(x, 1, 1, 5, half), 2);
        CHECK.due("with the class that it was asked with", x.take(), 1 + 65536 * 6);
    }

    private static void withThatNumberTheCookiesTimeStays() {
        CookieListener x = new CookieListener();
        x.rooms(1, 2);
        x.syn(1, 1, 5, 64);
        Steps.giveACookie(x);
        x.pass(30);
        x.syn(1, 1, 5, 64);
        x.pass(98);
        CHECK.due("128 after the cookie", x.ack(5, 5, 5, 5), 7);
        x.pass(1);
        CHECK.due("129 after the cookie", x.ack(5, 5, 5, 5), 8);
    }

    /** "with another number: that half goes first". */
    private static void withAnotherNumber() {
        CookieListener x = new CookieListener();
        long old = x.syn(1, 1, 5, 1460);
        x.pass(30);
        long young = x.syn(1, 1, 500, 256);
        CHECK.due("a half with the new number and class", young, x.cookie(1, 1, 500, 1, 0) ^ TURNED);
        CHECK.told("one half", x, 1, 0, 0, 0);
        CHECK.due("the old number is wrong", Steps.ack(x, 1, 1, 5, old), 4);
        x.pass(30);
        CHECK.due("60 after the old one", x.state(1, 1), 1);
        x.pass(29);
        CHECK.due("59 after the young one", x.state(1, 1), 1);
        CHECK.due("the new number is right", Steps.ack(x, 1, 1, 500, young), 2);
        CHECK.due("its class", x.take(), 1 + 65536);
    }

    private static void withAnotherNumberByOne() {
        for (int number : new int[] {0, -1, Integer.MIN_VALUE, Integer.MAX_VALUE}) {
            for (int by : new int[] {-1, 1, Integer.MIN_VALUE, 1 << 16}) {
                CookieListener x = new CookieListener();
                x.syn(1, 1, number, 64);
                CHECK.due("number " + number + " by " + by, x.syn(1, 1, number + by, 64),
                        x.cookie(1, 1, number + by, 0, 0) ^ TURNED);
                CHECK.told("one half", x, 1, 0, 0, 0);
            }
        }
    }

    /** The half that goes leaves its room, so that a full listener has room for the new one. */
    private static void withAnotherNumberWhenFull() {
        for (int size : new int[] {1, 2, 4, 32}) {
            CookieListener x = new CookieListener();
            x.rooms(size, 2);
            for (int i = 0; i < size; i++) {
                x.syn(i, 1, 5, 64);
            }
            for (int i = 0; i < size; i++) {
                CHECK.due("in place of " + i, x.syn(i, 1, 6, 64), x.cookie(i, 1, 6, 0, 0) ^ TURNED);
            }
            CHECK.told("all are halves", x, size, 0, 0, 0);
        }
    }

    /** Size was made less meanwhile: at n - 1 the others of n fill it; at n they do not. */
    private static void withAnotherNumberBeyondSize() {
        for (int size = 0; size <= 4; size++) {
            CookieListener x = new CookieListener();
            for (int i = 0; i < 4; i++) {
                x.syn(i, 1, 5, 64);
            }
            x.rooms(size, 2);
            boolean room = size == 4;
            long cookie = x.cookie(1, 1, 6, 0, 0);
            CHECK.due("size 4 to " + size, x.syn(1, 1, 6, 64), room ? cookie ^ TURNED : cookie);
            CHECK.told("size 4 to " + size, x, room ? 4 : 3, 0, 0, room ? 0 : 1);
            CHECK.due("its half, size 4 to " + size, x.state(1, 1), room ? 1 : 0);
            for (int i = 0; i < 4; i++) {
                CHECK.due("half " + i + ", size 4 to " + size, x.state(i, 1), i == 1 && !room ? 0 : 1);
            }
        }
    }

    /** "Else the cookie is the answer, and nothing is kept". */
    private static void withoutRoomNothingIsKept() {
        CookieListener x = new CookieListener();
        x.rooms(1, 2);
        x.syn(1, 1, 5, 64);
        for (int i = 1; i <= 40; i++) {
            CHECK.due("cookie " + i, x.syn(2, i, 5, 64), x.cookie(2, i, 5, 0, 0));
            CHECK.due("not kept " + i, x.state(2, i), 0);
            CHECK.told("after cookie " + i, x, 1, 0, 0, i, 0, 0, 0, 0);
        }
    }

    /** "the COOKIES' TIME is now": each cookie that is given moves it. */
    private static void withoutRoomTheCookiesTimeIsNow() {
        CookieListener x = Steps.withCookies();
        x.pass(100);
        Steps.giveACookie(x);
        x.pass(128);
        CHECK.due("128 after the second", x.ack(1, 1, 1, 1), 7);
        x.pass(1);
        CHECK.due("129 after the second", x.ack(1, 1, 1, 1), 8);
        Steps.giveACookie(x);
        CHECK.due("at the third", x.ack(1, 1, 1, 1), 7);
    }

    private static void withRoomTheCookiesTimeStays() {
        CookieListener x = Steps.withCookies();
        x.rooms(4, 2);
        x.pass(100);
        long half = x.syn(1, 1, 1, 64);
        x.syn(1, 1, 1, 64);
        x.syn(1, 1, 2, 64);
        x.syn(1, 1, 1, 64);
        CHECK.due("it opens", Steps.ack(x, 1, 1, 1, half), 2);
        x.syn(1, 1, 1, 64);
        CHECK.told("one cookie still", x, 0, 1, 1, 1);
        x.pass(28);
        CHECK.due("128 after the cookie", x.ack(5, 5, 5, 5), 7);
        x.pass(1);
        CHECK.due("129 after the cookie", x.ack(5, 5, 5, 5), 8);
    }

    /** "Answers the listener's number without sign": halves and cookies at both sides of 2^31. */
    private static void answersAreWithoutSign() {
        long half15 = Steps.at(15 * 64).syn(1, 1, 1, 4096);
        long half16 = Steps.at(16 * 64).syn(1, 1, 1, 0);
        CHECK.yes("half of slot 15 is from 2^31 up", half15 >= 1L << 31 && half15 < 1L << 32);
        CHECK.yes("half of slot 16 is below 2^31", half16 >= 0 && half16 < 1L << 31);
        CookieListener x = Steps.at(15 * 64);
        x.rooms(0, 1);
        long cookie15 = x.syn(1, 1, 1, 4096);
        x.pass(64);
        long cookie16 = x.syn(1, 1, 1, 0);
        CHECK.yes("cookie of slot 15 is below 2^31", cookie15 >= 0 && cookie15 < 1L << 31);
        CHECK.yes("cookie of slot 16 is from 2^31 up", cookie16 >= 1L << 31 && cookie16 < 1L << 32);
    }
}
