import java.util.ArrayList;
import java.util.List;
import java.util.function.BiConsumer;
import java.util.function.Function;
import java.util.function.Supplier;

/**
 * Listeners in several states, and all that can be seen of one. Since looking changes a listener,
 * each view is had of a listener of its own, and held against that of a twin.
 */
final class Twins {
    /** A way to a listener, and what is not to be seen of it without changing it. */
    record State(String name, Supplier<CookieListener> make, int size, int room, boolean hasRoom, long k, long l) {
    }

    private static final List<State> STATES = List.of(
            new State("new", CookieListener::new, 4, 2, true, 0, 0),
            new State("some of each", Twins::someOfEach, 6, 5, true, 3, 4),
            new State("all full", Twins::allFull, 32, 16, false, 0, 0),
            new State("more than rooms", Twins::moreThanRooms, 2, 1, false, 0, 0));
    private static final List<Function<CookieListener, List<Long>>> VIEWS = List.of(Twins::seeFigures,
            Twins::seeRooms, Twins::seeAges, Twins::seeCookiesTime);

    private final Check check;
    /** The views of each state as it is. */
    private final List<List<List<Long>>> plain = new ArrayList<>();

    Twins(Check check) {
        this.check = check;
        for (State state : STATES) {
            List<List<Long>> ofState = new ArrayList<>();
            for (Function<CookieListener, List<Long>> view : VIEWS) {
                ofState.add(view.apply(state.make.get()));
            }
            plain.add(ofState);
        }
    }

    /** In no state do these calls change anything. */
    void staysAfter(String what, BiConsumer<CookieListener, State> calls) {
        for (int at = 0; at < STATES.size(); at++) {
            State state = STATES.get(at);
            for (int view = 0; view < VIEWS.size(); view++) {
                CookieListener x = state.make.get();
                calls.accept(x, state);
                check.yes("after " + what + " (" + state.name + ") view " + view + " is as before",
                        VIEWS.get(view).apply(x).equals(plain.get(at).get(view)));
            }
        }
    }

    /** Halves 1 and 2, waiting ones 3 and 4, taken ones 5 and 6, each with ports 0 and 65535; cookies were given. */
    private static CookieListener someOfEach() {
        CookieListener x = new CookieListener();
        x.key(3, 4);
        x.rooms(6, 5);
        x.pass(100);
        openAndTake(x, 5);
        openAndTake(x, 6);
        both(x, 3);
        x.rooms(0, 5);
        both(x, 4);
        x.ack(50, 50, 50, 50);
        x.pass(7);
        x.rooms(6, 5);
        x.syn(1, 0, 1, 1460);
        x.syn(1, 65535, 1, 1460);
        x.pass(13);
        x.syn(2, 0, 1, 1460);
        x.syn(2, 65535, 1, 1460);
        x.pass(1);
        return x;
    }

    private static void openAndTake(CookieListener x, int address) {
        both(x, address);
        x.take();
        x.take();
    }

    private static void both(CookieListener x, int address) {
        Steps.open(x, address, 0, 1, 256);
        Steps.open(x, address, 65535, 1, 536);
    }

    /** 64 are open, 16 of them wait, and there are 32 halves; so cookies are given. */
    private static CookieListener allFull() {
        CookieListener x = new CookieListener();
        x.rooms(32, 16);
        for (int i = 0; i < 24; i++) {
            Steps.open(x, 1000 + i, 0, 1, 256);
            Steps.open(x, 1000 + i, 65535, 1, 256);
            x.take();
            x.take();
        }
        for (int address = 3; address < 11; address++) {
            both(x, address);
        }
        x.syn(1, 0, 1, 1460);
        x.syn(2, 65535, 1, 1460);
        for (int i = 0; i < 31; i++) {
            x.syn(3000 + i, 1, 1, 64);
        }
        x.pass(1);
        return x;
    }

    /** Rooms that were made less than what is there; a cookie was given. */
    private static CookieListener moreThanRooms() {
        CookieListener x = new CookieListener();
        x.rooms(4, 4);
        both(x, 3);
        both(x, 4);
        x.syn(1, 0, 1, 1460);
        x.syn(1, 65535, 1, 1460);
        x.syn(2, 0, 1, 1460);
        x.rooms(2, 1);
        Steps.giveACookie(x);
        x.pass(1);
        return x;
    }

    /** What is told, who is there, the key, the queue in its order, and the numbers and classes of halves. */
    private static List<Long> seeFigures(CookieListener x) {
        List<Long> seen = new ArrayList<>();
        for (int what = 0; what < 8; what++) {
            seen.add((long) x.told(what));
        }
        seen.add(x.hash(5, 6));
        for (int address = 1; address <= 6; address++) {
            seen.add((long) x.state(address, 0));
            seen.add((long) x.state(address, 65535));
        }
        seen.add((long) x.state(77, 0));
        seen.add((long) x.state(77, 65535));
        for (int i = 0; i < 17; i++) {
            seen.add((long) x.take());
        }
        for (int address = 1; address <= 6; address++) {
            for (int port : new int[] {0, 65535}) {
                x.close(1000 + address, port);
                long answer = x.syn(address, port, 1, 64);
                seen.add(answer);
                seen.add((long) Steps.ack(x, address, port, 1, answer));
                seen.add((long) x.take());
            }
        }
        return seen;
    }

    /** How many halves and how many that wait there is room for. */
    private static List<Long> seeRooms(CookieListener x) {
        List<Long> seen = new ArrayList<>();
        for (int i = 0; i < 33; i++) {
            long answer = x.syn(500 + i, 5, 5, 64);
            seen.add(answer);
            seen.add((long) Steps.ack(x, 500 + i, 5, 5, answer));
        }
        for (int i = 0; i < 33; i++) {
            seen.add(x.syn(600 + i, 5, 5, 64));
        }
        seen.add((long) x.told(0));
        seen.add((long) x.told(3));
        return seen;
    }

    /** When each half goes. */
    private static List<Long> seeAges(CookieListener x) {
        List<Long> seen = new ArrayList<>();
        for (int i = 0; i < 61; i++) {
            seen.add((long) x.told(0));
            seen.add((long) x.pass(1));
        }
        return seen;
    }

    /** When cookies were given too long ago. */
    private static List<Long> seeCookiesTime(CookieListener x) {
        List<Long> seen = new ArrayList<>();
        for (int i = 0; i < 130; i++) {
            seen.add((long) x.ack(88, 88, 88, 88));
            seen.add((long) x.pass(1));
        }
        return seen;
    }
}
