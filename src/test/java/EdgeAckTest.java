/** The edges of AN ACK: each of the answers 1 to 8 against its neighbours. */
public final class EdgeAckTest {
    private static final Check CHECK = new Check("EdgeAckTest");
    private static final long TURNED = 0xFF000000L;

    public static void main(String[] args) {
        answer1Not2();
        answer1Not5();
        answer2Not4();
        answer2Not3();
        answer3Stays();
        answer4Not3();
        answer4Not5Nor7();
        answer4Stays();
        answer5Not7ByNumbers();
        answer5Not7ByClass();
        answer5Not7BySlot();
        answer5Not7BySlotInTime();
        answer7ForTheSlotBelowZero();
        answer5Not6();
        answer6ChangesNothing();
        answer7Not6();
        answer8Not7();
        answer8WhenNeverGiven();
        answer8Not5Nor6();
        answer7ForTheNumberOfAHalf();
        theQueueKeepsTheOrderOfAcks();
        CHECK.end();
    }

    /** "of a caller that is open: 1", though all fits that opened it. */
    private static void answer1Not2() {
        CookieListener x = new CookieListener();
        long half = x.syn(1, 1, 1, 64);
        CHECK.due("opens", Steps.ack(x, 1, 1, 1, half), 2);
        CHECK.due("waits", Steps.ack(x, 1, 1, 1, half), 1);
        CHECK.due("waits, wrong numbers", x.ack(1, 1, 0, 0), 1);
        x.take();
        CHECK.due("taken", Steps.ack(x, 1, 1, 1, half), 1);
        CHECK.due("taken, wrong numbers", x.ack(1, 1, 0, 0), 1);
        CHECK.told("nothing changed", x, 0, 0, 1, 0, 1, 0, 0, 0);
        x.close(1, 1);
        CHECK.due("open no more", Steps.ack(x, 1, 1, 1, half), 8);
    }

    private static void answer1Not5() {
        CookieListener x = Steps.withCookies();
        long cookie = x.syn(1, 1, 1, 64);
        CHECK.due("opens", Steps.ack(x, 1, 1, 1, cookie), 5);
        CHECK.due("waits", Steps.ack(x, 1, 1, 1, cookie), 1);
        x.take();
        CHECK.due("taken", Steps.ack(x, 1, 1, 1, cookie), 1);
        CHECK.due("taken, wrong numbers", x.ack(1, 1, 0, 0), 1);
        CHECK.told("nothing changed", x, 0, 0, 1, 2, 0, 1, 0, 0);
        x.close(1, 1);
        CHECK.due("open no more, so the cookie is good again", Steps.ack(x, 1, 1, 1, cookie), 5);
    }

    /** "a half with number s - 1 and listener's number a - 1": both, and neither by one. */
    private static void answer2Not4() {
        CookieListener x = new CookieListener();
        int a = (int) x.syn(1, 1, 50, 64) + 1;
        for (int by : new int[] {-1, 1, 1 << 16, 1 << 23, 1 << 24, 1 << 27, Integer.MIN_VALUE}) {
            CHECK.due("s by " + by, x.ack(1, 1, 51 + by, a), 4);
            CHECK.due("a by " + by, x.ack(1, 1, 51, a + by), 4);
            CHECK.due("both by " + by, x.ack(1, 1, 51 + by, a + by), 4);
        }
        CHECK.due("the cookie in place of the half's number", x.ack(1, 1, 51, a ^ 0xFF000000), 4);
        CHECK.told("it stays", x, 1, 0, 0, 0, 0, 0, 0);
        CHECK.due("both right", x.ack(1, 1, 51, a), 2);
        CHECK.told("the half goes", x, 0, 1, 1, 0, 1, 0, 0);
    }

    /** "it opens (2), if queue and open ones have room": one place left in each, and none left in one of them. */
    private static void answer2Not3() {
        CHECK.due("a place in the queue and one open", halfAfter(62, 1, 2), 2);
        CHECK.due("no place in the queue", halfAfter(10, 2, 2), 3);
        CHECK.due("no open one", halfAfter(64, 0, 2), 3);
        CHECK.due("neither", halfAfter(62, 2, 2), 3);
        CHECK.due("more wait than room", halfAfter(0, 2, 1), 3);
    }

    /** A half's ack when so many are taken, so many wait, and the queue has that room. */
    private static int halfAfter(int taken, int waiting, int room) {
        CookieListener x = new CookieListener();
        Steps.openAndTake(x, taken);
        Steps.openAndLeave(x, waiting);
        x.rooms(4, room);
        return Steps.open(x, 1, 1, 1, 1);
    }

    /** "else 3 (it stays)": as often as it is tried; then it opens with its class. */
    private static void answer3Stays() {
        CookieListener x = new CookieListener();
        Steps.openAndLeave(x, 2);
        long half = x.syn(1, 1, 1, 1024);
        for (int i = 0; i < 3; i++) {
            CHECK.due("no room", Steps.ack(x, 1, 1, 1, half), 3);
            CHECK.due("it stays", x.state(1, 1), 1);
            CHECK.told("nothing changed", x, 1, 2, 2, 0, 2, 0, 0);
        }
        CHECK.due("its number stays", x.syn(1, 1, 1, 1024), half);
        x.take();
        CHECK.due("room", Steps.ack(x, 1, 1, 1, half), 2);
        x.take();
        CHECK.due("its class", x.take(), 1 + 65536 * 3);
    }

    /** A wrong number is 4 also where a right one would be 3. */
    private static void answer4Not3() {
        CookieListener x = new CookieListener();
        Steps.openAndLeave(x, 2);
        int a = (int) x.syn(1, 1, 1, 1) + 1;
        CHECK.due("wrong s, no room", x.ack(1, 1, 3, a), 4);
        CHECK.due("wrong a, no room", x.ack(1, 1, 2, a + 1), 4);
        CHECK.due("right, no room", x.ack(1, 1, 2, a), 3);
    }

    /** "Else, if it has a half: 4": a half keeps cookies from being looked at, good ones and wrong ones. */
    private static void answer4Not5Nor7() {
        CookieListener x = Steps.withCookies();
        long cookie = x.syn(1, 1, 1, 64);
        x.rooms(4, 16);
        x.syn(1, 1, 1, 64);
        CHECK.due("a good cookie of one that has a half", Steps.ack(x, 1, 1, 1, cookie), 4);
        CHECK.due("a wrong one of one that has a half", Steps.ack(x, 1, 1, 1, cookie + 1), 4);
        CHECK.told("neither opened nor counted", x, 1, 0, 0, 2, 0, 0, 0);
        x.pass(59);
        CHECK.due("at 59", Steps.ack(x, 1, 1, 1, cookie), 4);
        x.pass(1);
        CHECK.due("wrong, the half gone at 60", Steps.ack(x, 1, 1, 1, cookie + 1), 7);
        CHECK.due("good, the half gone at 60", Steps.ack(x, 1, 1, 1, cookie), 5);
    }

    /** "4 (it stays)". */
    private static void answer4Stays() {
        CookieListener x = new CookieListener();
        long half = x.syn(1, 1, 1, 1460);
        for (int i = 0; i < 3; i++) {
            CHECK.due("wrong", x.ack(1, 1, 7, 7), 4);
            CHECK.due("it stays", x.state(1, 1), 1);
        }
        CHECK.told("nothing changed", x, 1, 0, 0, 0, 0, 0, 0);
        CHECK.due("its number stays", x.syn(1, 1, 1, 1460), half);
        CHECK.due("it opens", Steps.ack(x, 1, 1, 1, half), 2);
        CHECK.due("its class", x.take(), 1 + 65536 * 6);
    }

    /** "if c is the cookie of it, s - 1 ...": of that caller and that number. */
    private static void answer5Not7ByNumbers() {
        CookieListener x = Steps.withCookies();
        int a = (int) x.syn(10, 20, 50, 1220) + 1;
        int wrong = 0;
        for (int by : new int[] {-1, 1, 1 << 16, 1 << 23, Integer.MIN_VALUE}) {
            CHECK.due("s by " + by, x.ack(10, 20, 51 + by, a), 7);
            CHECK.due("a by " + by, x.ack(10, 20, 51, a + by), 7);
            CHECK.due("address by " + by, x.ack(10 + by, 20, 51, a), 7);
            wrong += 3;
        }
        CHECK.due("port by -1", x.ack(10, 19, 51, a), 7);
        CHECK.due("port by 1", x.ack(10, 21, 51, a), 7);
        CHECK.due("address and port changed about", x.ack(20, 10, 51, a), 7);
        CHECK.told("all are counted", x, 0, 0, 0, 2, 0, 0, wrong + 3);
        CHECK.due("right", x.ack(10, 20, 51, a), 5);
        CHECK.told("open by a cookie", x, 0, 1, 1, 2, 0, 1, wrong + 3);
    }

    /** "the class in c": any of the eight, if the hash says so; the connection has it. */
    private static void answer5Not7ByClass() {
        CookieListener x = Steps.withCookies();
        for (int kind = 0; kind < 8; kind++) {
            long cookie = x.cookie(1, 1, 1, kind, 0);
            for (int other = 0; other < 8; other++) {
                long turned = cookie ^ ((long) (kind ^ other) << 24);
                if (other != kind) {
                    CHECK.due("class " + other + " in a cookie of " + kind, Steps.ack(x, 1, 1, 1, turned), 7);
                }
            }
            CHECK.due("a cookie of class " + kind, Steps.ack(x, 1, 1, 1, cookie), 5);
            CHECK.due("taken with class " + kind, x.take(), 1 + 65536 * kind);
            x.close(1, 1);
        }
    }

    /** "and the slot now, or the one before": none to come, none before that, none that looks the same modulo 32. */
    private static void answer5Not7BySlot() {
        for (int slot : new int[] {1, 2, 31, 32, 33, 40, 2048, 4096}) {
            CookieListener x = Steps.at(slot * 64);
            x.rooms(0, 2);
            Steps.giveACookie(x);
            for (int by : new int[] {-64, -33, -32, -31, -3, -2, 1, 2, 31, 32, 33}) {
                if (slot + by >= 0) {
                    CHECK.due("in slot " + slot + ", by " + by,
                            Steps.ack(x, 1, 1, 1, x.cookie(1, 1, 1, 0, slot + by)), 7);
                }
            }
            CHECK.due("slot " + slot + " now", Steps.ack(x, 1, 1, 1, x.cookie(1, 1, 1, 0, slot)), 5);
            CHECK.due("before slot " + slot, Steps.ack(x, 2, 1, 1, x.cookie(2, 1, 1, 0, slot - 1)), 5);
        }
    }

    /** The same as the time goes by: a cookie is good until its next slot ends, 64 to 127 seconds later. */
    private static void answer5Not7BySlotInTime() {
        int[][] givenAndLast = {{0, 127}, {1, 127}, {63, 127}, {64, 191}, {127, 191}, {1984, 2111}, {2047, 2111}};
        for (int[] g : givenAndLast) {
            CookieListener x = Steps.at(g[0]);
            x.rooms(0, 2);
            long cookie = x.syn(1, 1, 1, 64);
            x.pass(g[1] - g[0]);
            CHECK.due("given at " + g[0] + ", back at " + g[1], Steps.ack(x, 1, 1, 1, cookie), 5);
            x.close(1, 1);
            Steps.giveACookie(x);
            x.pass(1);
            CHECK.due("given at " + g[0] + ", back at " + (g[1] + 1), Steps.ack(x, 1, 1, 1, cookie), 7);
        }
    }

    /** "(if that isn't below 0)": what would be the cookie of slot -1 is wrong in slot 0. */
    private static void answer7ForTheSlotBelowZero() {
        CookieListener x = Steps.withCookies();
        for (int kind = 0; kind < 8; kind++) {
            long low = x.hash((1L << 32) + 1, 1 + 65536L * kind - 1048576L) & 0xFFFFFF;
            long below = 31L * 134217728L + kind * 16777216L + low;
            CHECK.due("slot -1, class " + kind, Steps.ack(x, 1, 1, 1, below), 7);
            long lowOfInt = x.hash((1L << 32) + 1, (1 + 65536L * kind - 1048576L) & 0xFFFFFFFFL) & 0xFFFFFF;
            CHECK.due("slot -1 as an int, class " + kind,
                    Steps.ack(x, 1, 1, 1, 31L * 134217728L + kind * 16777216L + lowOfInt), 7);
        }
        x.pass(63);
        CHECK.due("slot 0 in slot 0", Steps.ack(x, 1, 1, 1, x.cookie(1, 1, 1, 0, 0)), 5);
        x.pass(1);
        CHECK.due("slot 0 in slot 1, where the one before is 0",
                Steps.ack(x, 2, 1, 1, x.cookie(2, 1, 1, 0, 0)), 5);
    }

    /** "it opens (5), if there is room; else 6": as for halves. */
    private static void answer5Not6() {
        CHECK.due("a place in the queue and one open", cookieAfter(62, 1, 2), 5);
        CHECK.due("no place in the queue", cookieAfter(10, 2, 2), 6);
        CHECK.due("no open one", cookieAfter(64, 0, 2), 6);
        CHECK.due("neither", cookieAfter(62, 2, 2), 6);
        CHECK.due("more wait than room", cookieAfter(0, 2, 1), 6);
    }

    private static int cookieAfter(int taken, int waiting, int room) {
        CookieListener x = new CookieListener();
        Steps.openAndTake(x, taken);
        Steps.openAndLeave(x, waiting);
        x.rooms(0, room);
        return Steps.open(x, 1, 1, 1, 1);
    }

    private static void answer6ChangesNothing() {
        CookieListener x = Steps.withCookies();
        Steps.open(x, 1, 1, 1, 1);
        x.rooms(4, 1);
        long cookie = x.cookie(2, 1, 1, 7, 0);
        for (int i = 0; i < 3; i++) {
            CHECK.due("no room", Steps.ack(x, 2, 1, 1, cookie), 6);
            CHECK.due("nothing is kept", x.state(2, 1), 0);
            CHECK.told("nothing changed", x, 0, 1, 1, 2, 0, 1, 0, 0);
        }
        CHECK.due("the first is taken", x.take(), 1);
        CHECK.due("room", Steps.ack(x, 2, 1, 1, cookie), 5);
        CHECK.due("its class", x.take(), 1 + 65536 * 7);
    }

    /** "Else 7": a wrong cookie is 7 also where a right one would be 6. */
    private static void answer7Not6() {
        CookieListener x = Steps.withCookies();
        x.rooms(0, 1);
        Steps.open(x, 1, 1, 1, 1);
        long cookie = x.syn(2, 1, 1, 64);
        CHECK.due("wrong, no room", Steps.ack(x, 2, 1, 1, cookie + 1), 7);
        CHECK.due("right, no room", Steps.ack(x, 2, 1, 1, cookie), 6);
        CHECK.told("7 is counted, 6 is not", x, 0, 1, 1, 3, 0, 1, 1);
    }

    /** "the cookies' time is not more than 128 ago": 128 and 129, whenever they were given. */
    private static void answer8Not7() {
        for (int given : new int[] {0, 1, 63, 64, 10000}) {
            CookieListener x = Steps.at(given);
            x.rooms(0, 2);
            Steps.giveACookie(x);
            CHECK.due("0 ago, given at " + given, x.ack(1, 1, 1, 1), 7);
            x.pass(127);
            CHECK.due("127 ago, given at " + given, x.ack(1, 1, 1, 1), 7);
            x.pass(1);
            CHECK.due("128 ago, given at " + given, x.ack(1, 1, 1, 1), 7);
            x.pass(1);
            CHECK.due("129 ago, given at " + given, x.ack(1, 1, 1, 1), 8);
            x.pass(10000);
            CHECK.due("long ago, given at " + given, x.ack(1, 1, 1, 1), 8);
            CHECK.told("7 and 8 are both counted", x, 0, 0, 0, 1, 0, 0, 5);
        }
    }

    /** "8 if no cookies were given so lately", and none at all is not one at time 0. */
    private static void answer8WhenNeverGiven() {
        CookieListener x = new CookieListener();
        for (int seconds : new int[] {0, 1, 63, 64, 1, 10000}) {
            int time = x.pass(seconds);
            CHECK.due("wrong, at " + time, x.ack(1, 1, 1, 1), 8);
            CHECK.due("what would be right, at " + time,
                    Steps.ack(x, 1, 1, 1, x.cookie(1, 1, 1, 0, time / 64)), 8);
        }
        CHECK.told("all are counted", x, 0, 0, 0, 0, 0, 0, 12);
    }

    /** A right cookie at 128 is 5 or 6, and 8 at 129, with room and without. */
    private static void answer8Not5Nor6() {
        for (int room = 1; room <= 2; room++) {
            CookieListener x = Steps.withCookies();
            Steps.open(x, 1, 1, 1, 1);
            x.rooms(0, room);
            x.pass(128);
            long cookie = x.cookie(2, 1, 1, 0, 2);
            CHECK.due("at 128, room " + room, Steps.ack(x, 2, 1, 1, cookie), room == 1 ? 6 : 5);
            x.close(2, 1);
            x.pass(1);
            CHECK.due("at 129, room " + room, Steps.ack(x, 2, 1, 1, cookie), 8);
            CHECK.due("nothing is there", x.state(2, 1), 0);
        }
    }

    /** The number of a half has bits 24 to 31 turned, so it is no cookie when the half is gone. */
    private static void answer7ForTheNumberOfAHalf() {
        CookieListener x = Steps.withCookies();
        x.rooms(4, 2);
        long half = x.syn(1, 1, 1, 64);
        x.close(1, 1);
        CHECK.due("the half's number", Steps.ack(x, 1, 1, 1, half), 7);
        CHECK.due("turned back, the cookie", Steps.ack(x, 1, 1, 1, half ^ TURNED), 5);
    }

    private static void theQueueKeepsTheOrderOfAcks() {
        CookieListener x = new CookieListener();
        x.rooms(2, 4);
        long first = x.syn(1, 11, 1, 64);
        long second = x.syn(2, 12, 1, 256);
        long third = x.syn(3, 13, 1, 536);
        long fourth = x.syn(4, 14, 1, 1024);
        CHECK.due("fourth, by a cookie", Steps.ack(x, 4, 14, 1, fourth), 5);
        CHECK.due("second, by a half", Steps.ack(x, 2, 12, 1, second), 2);
        CHECK.due("third, by a cookie", Steps.ack(x, 3, 13, 1, third), 5);
        CHECK.due("first, by a half", Steps.ack(x, 1, 11, 1, first), 2);
        CHECK.due("fourth is taken", x.take(), 14 + 65536 * 3);
        CHECK.due("second is taken", x.take(), 12 + 65536);
        CHECK.due("third is taken", x.take(), 13 + 65536 * 2);
        CHECK.due("first is taken", x.take(), 11);
    }
}
