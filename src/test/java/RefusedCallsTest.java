/**
 * "Methods throw what their comments name; a call that throws changes nothing": each wrong call, on
 * listeners in several states. What can be seen of a listener afterwards must be what is seen of
 * its twin, which never had the call.
 */
public final class RefusedCallsTest {
    private static final Check CHECK = new Check("RefusedCallsTest");

    public static void main(String[] args) {
        rightCallsAreNotRefused();
        wrongCallsAreRefusedAndChangeNothing();
        CHECK.end();
    }

    /** The other side of each boundary: all arguments at their ends are taken. */
    private static void rightCallsAreNotRefused() {
        CookieListener x = new CookieListener();
        for (int size : new int[] {0, 32}) {
            for (int room : new int[] {1, 16}) {
                x.rooms(size, room);
            }
        }
        CHECK.due("pass(0)", x.pass(0), 0);
        CHECK.due("pass(10000)", x.pass(10000), 10000);
        for (int port : new int[] {0, 65535}) {
            for (int size : new int[] {0, 65535}) {
                int kind = size == 0 ? 0 : 7;
                CHECK.due("syn, port " + port + ", size " + size, x.syn(1, port, kind, size),
                        x.cookie(1, port, kind, kind, 10000 / 64) ^ 0xFF000000L);
            }
            CHECK.due("ack, port " + port, x.ack(1, port, 9, 9), 4);
            CHECK.due("state, port " + port, x.state(1, port), 1);
            CHECK.due("close, port " + port, x.close(1, port), 1);
            for (int kind : new int[] {0, 7}) {
                CHECK.due("cookie, port " + port + ", kind " + kind + ", slot 0",
                        x.cookie(1, port, 1, kind, 0) >> 24, kind);
                CHECK.due("cookie, port " + port + ", kind " + kind + ", the last slot",
                        x.cookie(1, port, 1, kind, Integer.MAX_VALUE) >> 24, 31 * 8 + kind);
            }
        }
        CHECK.due("told(0)", x.told(0), 0);
        CHECK.due("told(7)", x.told(7), 10000);
    }

    private static void wrongCallsAreRefusedAndChangeNothing() {
        Twins twins = new Twins(CHECK);
        for (WrongCalls.WrongCall wrong : WrongCalls.all()) {
            twins.staysAfter(wrong.name(), (x, state) -> CHECK.refused(wrong.name(), () -> wrong.call().accept(x)));
        }
    }
}
