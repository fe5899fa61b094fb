import java.util.ArrayList;
import java.util.List;

/**
 * A call that throws changes nothing: each wrong call is put between all calls of one run, whose
 * answers must then be those of the same run without it.
 */
public final class WrongInputsTest {
    private interface WrongCall {
        void on(CookieListener x);
    }

    private static final int LOW = Integer.MIN_VALUE;
    private static final int HIGH = Integer.MAX_VALUE;
    private static final Check CHECK = new Check("WrongInputsTest");

    public static void main(String[] args) {
        List<Long> plain = run(null);
        CHECK.yes("the run with wrong calls stays within 512 calls", plain.size() * 2 <= 512);
        List<WrongCall> wrong = wrongCalls();
        for (int i = 0; i < wrong.size(); i++) {
            List<Long> mixed = run(wrong.get(i));
            for (int at = 0; at < plain.size(); at++) {
                CHECK.due("answer " + at + " with wrong call " + i, mixed.get(at), plain.get(at));
            }
        }
        CHECK.end();
    }

    private static List<WrongCall> wrongCalls() {
        List<WrongCall> all = new ArrayList<>();
        for (int size : new int[] {LOW, -1, 33, HIGH}) {
            all.add(x -> x.rooms(size, 16));
        }
        for (int room : new int[] {LOW, -1, 0, 17, HIGH}) {
            all.add(x -> x.rooms(32, room));
        }
        for (int seconds : new int[] {LOW, -1, 10001, HIGH}) {
            all.add(x -> x.pass(seconds));
        }
        for (int out : new int[] {LOW, -1, 65536, HIGH}) {
            all.add(x -> x.syn(1, out, 99, 64));
            all.add(x -> x.syn(1, 1, 99, out));
            all.add(x -> x.syn(200, 1, 99, out));
            all.add(x -> x.ack(1, out, 2, 2));
            all.add(x -> x.close(1, out));
            all.add(x -> x.state(1, out));
            all.add(x -> x.cookie(1, out, 1, 1, 1));
        }
        for (int kind : new int[] {LOW, -1, 8, HIGH}) {
            all.add(x -> x.cookie(1, 1, 1, kind, 1));
            all.add(x -> x.told(kind));
        }
        for (int slot : new int[] {LOW, -1}) {
            all.add(x -> x.cookie(1, 1, 1, 1, slot));
        }
        return all;
    }

    /** One run that goes through every state; the wrong call, if any, follows each one. */
    private static List<Long> run(WrongCall wrong) {
        CookieListener x = new CookieListener();
        List<Long> answers = new ArrayList<>();
        int[] back = new int[8];
        for (int i = 0; i < 8; i++) {
            back[i] = (int) note(answers, x, wrong, x.syn(i, 1, i, 1460)) + 1;
        }
        for (int i = 0; i < 8; i++) {
            note(answers, x, wrong, x.ack(i, 1, i + 1, back[i]));
        }
        note(answers, x, wrong, x.take());
        for (int i = 0; i < 8; i++) {
            note(answers, x, wrong, x.ack(i, 1, i + 1, back[i]));
        }
        note(answers, x, wrong, x.pass(59));
        note(answers, x, wrong, x.syn(3, 1, 3, 64));
        note(answers, x, wrong, x.pass(1));
        note(answers, x, wrong, x.syn(3, 1, 3, 64));
        note(answers, x, wrong, x.take());
        note(answers, x, wrong, x.ack(7, 1, 8, back[7]));
        note(answers, x, wrong, x.pass(68));
        note(answers, x, wrong, x.ack(50, 1, 1, 1));
        note(answers, x, wrong, x.pass(1));
        note(answers, x, wrong, x.ack(50, 1, 1, 1));
        note(answers, x, wrong, x.hash(1, 2));
        for (int i = 0; i < 8; i++) {
            note(answers, x, wrong, x.state(i, 1));
            note(answers, x, wrong, x.close(i, 1));
            note(answers, x, wrong, x.told(i));
        }
        return answers;
    }

    private static long note(List<Long> answers, CookieListener x, WrongCall wrong, long answer) {
        answers.add(answer);
        if (wrong != null) {
            CHECK.refused("a wrong call", () -> wrong.on(x));
        }
        return answer;
    }
}
