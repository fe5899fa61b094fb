import java.util.List;
import java.util.Random;

/** Runs of 512 calls, drawn from fixed seeds, wrong calls among them, held against the model. */
public final class LongRunsTest {
    private static final int RUNS = 800;
    private static final int CALLS = 512;
    private static final int[] SIZES = {0, 63, 64, 255, 256, 536, 1023, 1220, 1440, 1459, 1460, 4096, 65535};
    private static final int[] PASSES = {0, 1, 3, 29, 30, 59, 60, 63, 64, 65, 128, 129};
    private static final int[] NUMBERS = {0, 7, -1, Integer.MAX_VALUE, Integer.MIN_VALUE};
    /** Runs start at times about which the slot's bits go round, and where 2^20 slot leaves an int. */
    private static final int[] STARTS = {0, 0, 1000, 1900, 2047, 9990};
    private static final int[] PASSES_BEFORE = {0, 0, 0, 13, 26};
    private static final List<WrongCalls.WrongCall> WRONG_CALLS = WrongCalls.all();

    private static final Check CHECK = new Check("LongRunsTest");
    private static final int[] ACKS_SEEN = new int[9];

    private final Random random;
    private final CookieListener x = new CookieListener();
    private final Model model = new Model();
    private final int callers;
    private final int weightOfPass;
    private int lastAddress = 0;
    private int lastPort = 0;
    private int lastNumber = 0;
    private long lastAnswer = 0;

    private LongRunsTest(int seed) {
        random = new Random(seed);
        callers = 2 + random.nextInt(100);
        weightOfPass = random.nextInt(3) * 5;
    }

    public static void main(String[] args) {
        for (int run = 0; run < RUNS; run++) {
            LongRunsTest test = new LongRunsTest(run);
            for (int call = test.start(); call < CALLS; call++) {
                test.step("run " + run + ", call " + call);
            }
        }
        for (int answer = 1; answer <= 8; answer++) {
            CHECK.yes("the runs saw answer " + answer + " often", ACKS_SEEN[answer] > 100);
        }
        CHECK.end();
    }

    private int one(int[] of) {
        return of[random.nextInt(of.length)];
    }

    /** Answers how many calls it took. */
    private int start() {
        int passes = one(PASSES_BEFORE);
        for (int i = 0; i < passes; i++) {
            CHECK.due("pass(10000)", x.pass(10000), model.pass(10000));
        }
        int seconds = one(STARTS);
        CHECK.due("pass at the start", x.pass(seconds), model.pass(seconds));
        return passes + 1;
    }

    private void step(String where) {
        int caller = random.nextInt(callers);
        int address = caller / 3 - 4;
        int port = caller % 3 == 0 ? 65535 : caller % 3 - 1;
        int kind = random.nextInt(105 + weightOfPass);
        if (kind < 35) {
            syn(where, address, port);
        } else if (kind < 70) {
            ack(where, address, port);
        } else if (kind < 80) {
            CHECK.due(where + ": take", x.take(), model.take());
        } else if (kind < 84) {
            CHECK.due(where + ": close", x.close(address, port), model.close(address, port));
        } else if (kind < 89) {
            CHECK.due(where + ": state", x.state(address, port), model.state(address, port));
        } else if (kind < 96) {
            int what = random.nextInt(8);
            CHECK.due(where + ": told " + what, x.told(what), model.told(what));
        } else if (kind < 98) {
            rooms();
        } else if (kind < 99) {
            long k = random.nextInt(3);
            long l = random.nextInt(2);
            x.key(k, l);
            model.key(k, l);
        } else if (kind < 104) {
            WrongCalls.WrongCall wrong = WRONG_CALLS.get(random.nextInt(WRONG_CALLS.size()));
            CHECK.refused(where + ": " + wrong.name(), () -> wrong.call().accept(x));
        } else {
            int seconds = one(PASSES);
            CHECK.due(where + ": pass", x.pass(seconds), model.pass(seconds));
        }
    }

    private void rooms() {
        int size = random.nextInt(3) == 0 ? 0 : random.nextInt(33);
        int room = 1 + random.nextInt(16);
        x.rooms(size, room);
        model.rooms(size, room);
    }

    private void syn(String where, int address, int port) {
        int number = one(NUMBERS);
        int size = random.nextInt(4) == 0 ? random.nextInt(5000) : one(SIZES);
        long answer = x.syn(address, port, number, size);
        CHECK.due(where + ": syn", answer, model.syn(address, port, number, size));
        if (random.nextInt(4) != 0) {
            lastAddress = address;
            lastPort = port;
            lastNumber = number;
            lastAnswer = answer;
        }
    }

    private void ack(String where, int address, int port) {
        int s = lastNumber + 1;
        int a = (int) lastAnswer + 1;
        int kind = random.nextInt(8);
        if (kind > 1) {
            address = lastAddress;
            port = lastPort;
        }
        if (kind == 2) {
            a += one(new int[] {1, -1, 1 << 24, 1 << 27});
        } else if (kind == 3) {
            s += one(new int[] {1, -1});
        }
        int answer = x.ack(address, port, s, a);
        ACKS_SEEN[answer]++;
        CHECK.due(where + ": ack", answer, model.ack(address, port, s, a));
    }
}
