/**
 * What the document lets stay ("what is there stays", "it stays", "nothing", "NONE when there is
 * none"), and calls that only ask: nothing that can be seen of a listener is changed by them.
 */
public final class QuietCallsTest {
    private static final Check CHECK = new Check("QuietCallsTest");
    private static final Twins TWINS = new Twins(CHECK);
    private static final int[] PORTS = {0, 65535};

    public static void main(String[] args) {
        callsThatAsk();
        noTime();
        roomsAndBack();
        keyAndBack();
        takeFromAnEmptyQueue();
        for (int address : new int[] {1, 2, 3, 4, 5, 6, 77}) {
            for (int port : PORTS) {
                closeOfNothing(address, port);
                synOfAnOpenOne(address, port);
                synOfAHalfWithItsNumber(address, port);
                ackOfAnOpenOne(address, port);
                wrongAckOfAHalf(address, port);
            }
        }
        acksWithoutRoom();
        CHECK.end();
    }

    private static void callsThatAsk() {
        for (int port : PORTS) {
            TWINS.staysAfter("state", (x, state) -> x.state(1, port));
            TWINS.staysAfter("cookie", (x, state) -> x.cookie(1, port, 1, 7, 1));
        }
        TWINS.staysAfter("hash", (x, state) -> x.hash(-1, 1));
        for (int what = 0; what < 8; what++) {
            int asked = what;
            TWINS.staysAfter("told(" + what + ")", (x, state) -> x.told(asked));
        }
    }

    private static void noTime() {
        TWINS.staysAfter("pass(0)", (x, state) -> x.pass(0));
    }

    /** Promise 2: "what is there stays". */
    private static void roomsAndBack() {
        for (int size : new int[] {0, 1, 32}) {
            for (int room : new int[] {1, 2, 16}) {
                TWINS.staysAfter("rooms(" + size + ", " + room + ") and back", (x, state) -> {
                    x.rooms(size, room);
                    x.rooms(state.size(), state.room());
                });
            }
        }
    }

    /** Promise 3: "what is there stays". */
    private static void keyAndBack() {
        TWINS.staysAfter("key and back", (x, state) -> {
            x.key(-7, Long.MAX_VALUE);
            x.key(state.k(), state.l());
        });
    }

    private static void takeFromAnEmptyQueue() {
        TWINS.staysAfter("take from an empty queue", (x, state) -> {
            if (x.told(1) == 0) {
                CHECK.due("take", x.take(), -1);
            }
        });
    }

    private static void closeOfNothing(int address, int port) {
        TWINS.staysAfter("close of nothing, " + address + " " + port, (x, state) -> {
            if (x.state(address, port) == 0) {
                CHECK.due("close", x.close(address, port), 0);
            }
        });
    }

    private static void synOfAnOpenOne(int address, int port) {
        TWINS.staysAfter("syn of an open one, " + address + " " + port, (x, state) -> {
            if (x.state(address, port) >= 2) {
                CHECK.due("syn", x.syn(address, port, 1, 64), -1);
                CHECK.due("syn with another number", x.syn(address, port, 2, 64), -1);
            }
        });
    }

    private static void synOfAHalfWithItsNumber(int address, int port) {
        TWINS.staysAfter("syn of a half with its number, " + address + " " + port, (x, state) -> {
            if (x.state(address, port) == 1) {
                long first = x.syn(address, port, 1, 64);
                CHECK.due("syn", x.syn(address, port, 1, 65535), first);
            }
        });
    }

    private static void ackOfAnOpenOne(int address, int port) {
        TWINS.staysAfter("ack of an open one, " + address + " " + port, (x, state) -> {
            if (x.state(address, port) >= 2) {
                CHECK.due("ack", x.ack(address, port, 2, 2), 1);
            }
        });
    }

    private static void wrongAckOfAHalf(int address, int port) {
        TWINS.staysAfter("wrong ack of a half, " + address + " " + port, (x, state) -> {
            if (x.state(address, port) == 1) {
                CHECK.due("ack", x.ack(address, port, 3, 3), 4);
            }
        });
    }

    /** Answers 3 and 6. */
    private static void acksWithoutRoom() {
        TWINS.staysAfter("acks without room", (x, state) -> {
            if (!state.hasRoom()) {
                long half = x.syn(1, 0, 1, 64);
                CHECK.due("a right ack of a half", Steps.ack(x, 1, 0, 1, half), 3);
                CHECK.due("a good cookie", Steps.ack(x, 77, 0, 1, x.cookie(77, 0, 1, 0, 0)), 6);
            }
        });
    }
}
