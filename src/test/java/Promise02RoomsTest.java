/** Promise 2: size of halves, and room of the queue; what is there stays. */
public final class Promise02RoomsTest {
    private static final Check CHECK = new Check("Promise02RoomsTest");

    public static void main(String[] args) {
        eachSizeIsKept();
        eachRoomIsKept();
        halvesStayWhenSizeShrinks();
        queueStaysWhenRoomShrinks();
        wrongOnesAreRefused();
        CHECK.end();
    }

    private static void eachSizeIsKept() {
        for (int size = 0; size <= 32; size++) {
            CookieListener x = new CookieListener();
            x.rooms(size, 1);
            for (int i = 0; i < 34; i++) {
                x.syn(i, 5, 6, 7);
            }
            CHECK.told("size " + size, x, size, 0, 0, 34 - size);
        }
    }

    private static void eachRoomIsKept() {
        for (int room = 1; room <= 16; room++) {
            CookieListener x = new CookieListener();
            x.rooms(32, room);
            for (int i = 0; i < 18; i++) {
                int answer = Steps.open(x, i, 5, 6, 7);
                CHECK.due("room " + room + ", caller " + i, answer, i < room ? 2 : 3);
            }
            CHECK.told("room " + room, x, 18 - room, room, room, 0, room);
        }
    }

    private static void halvesStayWhenSizeShrinks() {
        CookieListener x = new CookieListener();
        for (int i = 0; i < 4; i++) {
            x.syn(i, 1, 10, 1460);
        }
        x.rooms(2, 2);
        CHECK.told("size 4 to 2", x, 4);
        long again = x.syn(3, 1, 10, 1460);
        CHECK.due("a half is still acked", x.ack(3, 1, 11, (int) again + 1), 2);
        x.close(0, 1);
        x.syn(9, 1, 10, 1460);
        CHECK.told("two halves fill size 2", x, 2, 1, 1, 1);
        x.rooms(3, 2);
        x.syn(9, 1, 10, 1460);
        CHECK.told("size 3 has room for one more", x, 3, 1, 1, 1);
    }

    private static void queueStaysWhenRoomShrinks() {
        CookieListener x = new CookieListener();
        x.rooms(4, 3);
        for (int i = 0; i < 3; i++) {
            Steps.open(x, i, 20 + i, 10, 64);
        }
        x.rooms(4, 1);
        CHECK.told("room 3 to 1", x, 0, 3, 3);
        CHECK.due("no room", Steps.open(x, 5, 5, 5, 5), 3);
        CHECK.due("first", x.take(), 20);
        CHECK.due("second", x.take(), 21);
        CHECK.due("one waits, that fills room 1", Steps.open(x, 5, 5, 5, 5), 3);
        CHECK.due("third", x.take(), 22);
        CHECK.due("room again", Steps.open(x, 5, 5, 5, 5), 2);
    }

    private static void wrongOnesAreRefused() {
        int[][] wrong = {
            {-1, 1}, {33, 1}, {0, 0}, {0, 17}, {32, 0}, {32, 17}, {-1, 0}, {33, 17}, {4, -1},
            {Integer.MIN_VALUE, 2}, {Integer.MAX_VALUE, 2}, {4, Integer.MIN_VALUE}, {4, Integer.MAX_VALUE},
        };
        for (int[] w : wrong) {
            CookieListener x = new CookieListener();
            CHECK.refused("rooms(" + w[0] + ", " + w[1] + ")", () -> x.rooms(w[0], w[1]));
            for (int i = 0; i < 5; i++) {
                x.syn(i, i, i, i);
            }
            CHECK.told("size is still 4", x, 4, 0, 0, 1);
            for (int i = 0; i < 3; i++) {
                CHECK.due("room is still 2", Steps.open(x, i, i, i, i), i < 2 ? 2 : 3);
            }
        }
    }
}
