/** The calls that README.md shows under "Use", with the answers that it tells. */
public final class ReadmeExampleTest {
    public static void main(String[] args) {
        Check check = new Check("ReadmeExampleTest");
        CookieListener listener = new CookieListener();
        listener.key(0x0706050403020100L, 0x0f0e0d0c0b0a0908L);
        listener.rooms(1, 16);
        long half = listener.syn(0x7F000001, 4000, 77, 1460);
        check.due("the half's number", half, 4190907865L);
        long cookie = listener.syn(0x7F000002, 4001, 88, 536);
        check.due("the cookie", cookie, 43320185);
        check.due("ack of the half", listener.ack(0x7F000001, 4000, 78, (int) half + 1), 2);
        check.due("pass", listener.pass(30), 30);
        check.due("ack of the cookie", listener.ack(0x7F000002, 4001, 89, (int) cookie + 1), 5);
        check.due("take", listener.take(), 397216);
        check.due("state", listener.state(0x7F000001, 4000), 3);
        check.due("close", listener.close(0x7F000001, 4000), 3);
        check.due("told", listener.told(1), 1);
        check.due("take again", listener.take(), 135073);
        check.due("take from none", listener.take(), -1);
        check.end();
    }
}
