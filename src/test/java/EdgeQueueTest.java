/** The edges of THE QUEUE: up to ROOM that wait, 64 open ones at most, queue and all. */
public final class EdgeQueueTest {
    private static final Check CHECK = new Check("EdgeQueueTest");

    public static void main(String[] args) {
        upToRoom();
        whatMakesRoom();
        takenOnesStayOpenUntilClosed();
        sixtyFourQueueAndAll();
        sixtyFourWithAFullQueue();
        closingMakesRoomBelowSixtyFour();
        CHECK.end();
    }

    /** "up to so many (ROOM) open connections, which wait to be taken": by halves and by cookies. */
    private static void upToRoom() {
        for (int room = 1; room <= 16; room++) {
            CookieListener x = new CookieListener();
            x.rooms(32, room);
            CookieListener y = new CookieListener();
            y.rooms(0, room);
            for (int i = 0; i < room; i++) {
                CHECK.due("room " + room + ", half " + i, Steps.open(x, i, i, i, i), 2);
                CHECK.due("room " + room + ", cookie " + i, Steps.open(y, i, i, i, i), 5);
            }
            CHECK.due("a half too many for room " + room, Steps.open(x, 99, 99, 99, 99), 3);
            CHECK.due("a cookie too many for room " + room, Steps.open(y, 99, 99, 99, 99), 6);
            CHECK.told("room " + room + " by halves", x, 1, room, room, 0, room, 0, 0);
            CHECK.told("room " + room + " by cookies", y, 0, room, room, room + 1, 0, room, 0);
        }
    }

    private static void whatMakesRoom() {
        CookieListener x = new CookieListener();
        Steps.openAndTake(x, 1);
        Steps.openAndLeave(x, 2);
        long half = x.syn(1, 1, 1, 1);
        CHECK.due("full", Steps.ack(x, 1, 1, 1, half), 3);
        CHECK.due("a taken one is closed", x.close(1000, 1), 3);
        CHECK.due("the queue is still full", Steps.ack(x, 1, 1, 1, half), 3);
        CHECK.due("one that waits is closed", x.close(2001, 2), 2);
        CHECK.due("that makes room", Steps.ack(x, 1, 1, 1, half), 2);
        long other = x.syn(2, 1, 1, 1);
        CHECK.due("full again", Steps.ack(x, 2, 1, 1, other), 3);
        x.take();
        CHECK.due("taking makes room", Steps.ack(x, 2, 1, 1, other), 2);
        CHECK.due("for one", Steps.open(x, 3, 1, 1, 1), 3);
        x.rooms(4, 3);
        CHECK.due("a greater room is room", Steps.open(x, 3, 1, 1, 1), 2);
    }

    /** "those taken stay OPEN until closed". */
    private static void takenOnesStayOpenUntilClosed() {
        CookieListener x = new CookieListener();
        Steps.openAndTake(x, 3);
        x.pass(10000);
        x.rooms(0, 1);
        x.key(1, 1);
        for (int i = 0; i < 3; i++) {
            CHECK.due("taken", x.state(1000 + i, 1), 3);
            CHECK.due("its SYN", x.syn(1000 + i, 1, i, 1460), -1);
            CHECK.due("its ACK", x.ack(1000 + i, 1, i, 1460), 1);
            CHECK.told("open in all", x, 0, 0, 3 - i);
            CHECK.due("closed", x.close(1000 + i, 1), 3);
            CHECK.told("open in all", x, 0, 0, 2 - i);
            CHECK.due("it is no more", x.ack(1000 + i, 1, i, 1460), 8);
        }
    }

    /** "64 of them at most, queue and all": with so many that wait, and the others taken. */
    private static void sixtyFourQueueAndAll() {
        for (int waiting = 0; waiting < 16; waiting++) {
            CookieListener x = new CookieListener();
            x.rooms(4, 16);
            Steps.openAndTake(x, 63 - waiting);
            Steps.openAndLeave(x, waiting);
            long half = x.syn(1, 1, 1, 1);
            x.rooms(0, 16);
            long cookie = x.syn(2, 1, 1, 1);
            long last = x.syn(3, 1, 1, 1);
            CHECK.told("63 open, " + waiting + " wait", x, 1, waiting, 63);
            CHECK.due("the 64th", Steps.ack(x, 3, 1, 1, last), 5);
            CHECK.told("64 open", x, 1, waiting + 1, 64);
            if (waiting < 15) {
                CHECK.due("the 65th, by a half", Steps.ack(x, 1, 1, 1, half), 3);
                CHECK.due("the 65th, by a cookie", Steps.ack(x, 2, 1, 1, cookie), 6);
            }
            x.take();
            CHECK.told("one more taken", x, 1, waiting, 64);
            CHECK.due("a place in the queue is no room, for a half", Steps.ack(x, 1, 1, 1, half), 3);
            CHECK.due("nor for a cookie", Steps.ack(x, 2, 1, 1, cookie), 6);
            CHECK.told("still 64", x, 1, waiting, 64);
        }
    }

    private static void sixtyFourWithAFullQueue() {
        CookieListener x = new CookieListener();
        x.rooms(4, 16);
        Steps.openAndTake(x, 48);
        Steps.openAndLeave(x, 15);
        CHECK.due("the 64th, by a half", Steps.open(x, 1, 1, 1, 1), 2);
        CHECK.told("48 taken, 16 wait", x, 0, 16, 64);
        CHECK.due("the 65th", Steps.open(x, 2, 1, 1, 1), 3);
        for (int i = 0; i < 16; i++) {
            CHECK.yes("all are taken", x.take() != -1);
        }
        CHECK.due("none waits", x.take(), -1);
        CHECK.told("64 taken", x, 1, 0, 64);
        CHECK.due("the queue is empty, 64 are open", Steps.open(x, 2, 1, 1, 1), 3);
        CHECK.due("the 64th is open", x.state(1, 1), 3);
    }

    private static void closingMakesRoomBelowSixtyFour() {
        CookieListener x = new CookieListener();
        x.rooms(4, 16);
        Steps.openAndTake(x, 63);
        Steps.openAndLeave(x, 1);
        long half = x.syn(1, 1, 1, 1);
        CHECK.due("64 are open", Steps.ack(x, 1, 1, 1, half), 3);
        CHECK.due("a taken one is closed", x.close(1062, 1), 3);
        CHECK.due("63 were open", Steps.ack(x, 1, 1, 1, half), 2);
        long other = x.syn(2, 1, 1, 1);
        CHECK.due("64 again", Steps.ack(x, 2, 1, 1, other), 3);
        CHECK.due("one that waits is closed", x.close(2000, 2), 2);
        CHECK.due("63 were open once more", Steps.ack(x, 2, 1, 1, other), 2);
        CHECK.told("64 of them", x, 0, 2, 64, 0, 66);
    }
}
