import java.util.ArrayList;
import java.util.List;
import java.util.function.Consumer;

/** All kinds of calls that the document has refused, each wrong by one argument alone, and some by two. */
final class WrongCalls {
    record WrongCall(String name, Consumer<CookieListener> call) {
    }

    private static final int LOW = Integer.MIN_VALUE;
    private static final int HIGH = Integer.MAX_VALUE;

    private final List<WrongCall> all = new ArrayList<>();

    private WrongCalls() {
    }

    static List<WrongCall> all() {
        WrongCalls calls = new WrongCalls();
        calls.ofRooms();
        calls.ofPass();
        calls.ofSyn();
        calls.ofCallers();
        calls.ofCookie();
        calls.ofTold();
        return calls.all;
    }

    private void add(String name, Consumer<CookieListener> call) {
        all.add(new WrongCall(name, call));
    }

    /** "size is not 0 to 32, or room not 1 to 16". */
    private void ofRooms() {
        for (int size : new int[] {LOW, -1, 33, HIGH}) {
            for (int room : new int[] {1, 7, 16}) {
                add("rooms(" + size + ", " + room + ")", x -> x.rooms(size, room));
            }
        }
        for (int room : new int[] {LOW, -1, 0, 17, HIGH}) {
            for (int size : new int[] {0, 7, 32}) {
                add("rooms(" + size + ", " + room + ")", x -> x.rooms(size, room));
            }
        }
        add("rooms(-1, 0)", x -> x.rooms(-1, 0));
        add("rooms(33, 17)", x -> x.rooms(33, 17));
    }

    /** "seconds is not 0 to 10000". */
    private void ofPass() {
        for (int seconds : new int[] {LOW, -60, -1, 10001, HIGH}) {
            add("pass(" + seconds + ")", x -> x.pass(seconds));
        }
    }

    /** "port is not 0 to 65535, or size not 0 to 65535": of those that are there (1 to 6), and of new ones. */
    private void ofSyn() {
        for (int address : new int[] {1, 2, 3, 4, 5, 6, 77}) {
            for (int out : new int[] {LOW, -1, 65536, HIGH}) {
                add("syn(" + address + ", " + out + ", 99, 64)", x -> x.syn(address, out, 99, 64));
                add("syn(" + address + ", 0, 99, " + out + ")", x -> x.syn(address, 0, 99, out));
                add("syn(" + address + ", 65535, 99, " + out + ")", x -> x.syn(address, 65535, 99, out));
            }
        }
        add("syn(77, -1, 99, -1)", x -> x.syn(77, -1, 99, -1));
        add("syn(77, 65536, 99, 65536)", x -> x.syn(77, 65536, 99, 65536));
    }

    /** "port is not 0 to 65535": of ack, close and state. */
    private void ofCallers() {
        for (int address : new int[] {1, 2, 3, 4, 5, 6, 77}) {
            for (int out : new int[] {LOW, -1, 65536, HIGH}) {
                add("ack(" + address + ", " + out + ", 2, 2)", x -> x.ack(address, out, 2, 2));
                add("close(" + address + ", " + out + ")", x -> x.close(address, out));
                add("state(" + address + ", " + out + ")", x -> x.state(address, out));
            }
        }
    }

    /** "port is not 0 to 65535, or kind not 0 to 7, or slot below 0". */
    private void ofCookie() {
        for (int out : new int[] {LOW, -1, 65536, HIGH}) {
            add("cookie(1, " + out + ", 1, 1, 1)", x -> x.cookie(1, out, 1, 1, 1));
        }
        for (int kind : new int[] {LOW, -1, 8, HIGH}) {
            add("cookie(1, 1, 1, " + kind + ", 1)", x -> x.cookie(1, 1, 1, kind, 1));
        }
        for (int slot : new int[] {LOW, -64, -1}) {
            add("cookie(1, 1, 1, 1, " + slot + ")", x -> x.cookie(1, 1, 1, 1, slot));
        }
        add("cookie(1, -1, 1, 8, -1)", x -> x.cookie(1, -1, 1, 8, -1));
    }

    /** "another what". */
    private void ofTold() {
        for (int what : new int[] {LOW, -2, -1, 8, 9, HIGH}) {
            add("told(" + what + ")", x -> x.told(what));
        }
    }
}
