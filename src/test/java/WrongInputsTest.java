import java.util.ArrayList;
import java.util.List;

/**
 * A call that throws changes nothing: each wrong call is put between all calls of one run, whose
 * answers must then be those of the same run without it.
 */
public final class WrongInputsTest {
    private static final Check CHECK = new Check("WrongInputsTest");

    public static void main(String[] args) {
        List<Long> plain = run(null);
        CHECK.yes("the run with wrong calls stays within 512 calls", plain.size() * 2 <= 512);
        for (WrongCalls.WrongCall wrong : WrongCalls.all()) {
            List<Long> mixed = run(wrong);
            for (int at = 0; at < plain.size(); at++) {
                CHECK.due("answer " + at + " with " + wrong.name(), mixed.get(at), plain.get(at));
            }
        }
        CHECK.end();
    }

    /** One run that goes through every state; the wrong call, if any, follows each one. */
    private static List<Long> run(WrongCalls.WrongCall wrong) {
        CookieListener x = new CookieListener();
        List<Long> answers = new ArrayList<>();
        int[] back = new int[8];
        for (int i = 0; i < 8; i++) {
            back[i] = (int) note(answers, x, wrong, x.syn(i, 1, i, 1460)) + 1;
        }
        for (int i = 0; i < 8; i++) {
            note(answers, x, wrong, x.ack(i, 1, i + 1, back[i]));
        }
        note(answers, x, wrong, x.take());
        for (int i = 0; i < 8; i++) {
            note(answers, x, wrong, x.ack(i, 1, i + 1, back[i]));
        }
        note(answers, x, wrong, x.pass(59));
        note(answers, x, wrong, x.syn(3, 1, 3, 64));
        note(answers, x, wrong, x.pass(1));
        note(answers, x, wrong, x.syn(3, 1, 3, 64));
        note(answers, x, wrong, x.take());
        note(answers, x, wrong, x.ack(7, 1, 8, back[7]));
        note(answers, x, wrong, x.pass(68));
        note(answers, x, wrong, x.ack(50, 1, 1, 1));
        note(answers, x, wrong, x.pass(1));
        note(answers, x, wrong, x.ack(50, 1, 1, 1));
        note(answers, x, wrong, x.hash(1, 2));
        for (int i = 0; i < 8; i++) {
            note(answers, x, wrong, x.state(i, 1));
            note(answers, x, wrong, x.close(i, 1));
            note(answers, x, wrong, x.told(i));
        }
        return answers;
    }

    private static long note(List<Long> answers, CookieListener x, WrongCalls.WrongCall wrong, long answer) {
        answers.add(answer);
        if (wrong != null) {
            CHECK.refused(wrong.name(), () -> wrong.call().accept(x));
        }
        return answer;
    }
}
