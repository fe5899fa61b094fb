/** Promise 11: the hash of two longs. */
public final class Promise11HashTest {
    public static void main(String[] args) {
        Check check = new Check("Promise11HashTest");
        CookieListener x = new CookieListener();
        check.due("hash(0, 0)", x.hash(0, 0), 3659997967308761462L);
        check.due("hash(1, 2)", x.hash(1, 2), -2163557957507198923L);
        check.due("hash(-1, -1)", x.hash(-1, -1), 8560908848243617172L);
        check.due("the same again", x.hash(0, 0), 3659997967308761462L);
        long[] words = {0, 1, -1, 255, 1L << 60, Long.MIN_VALUE, Long.MAX_VALUE, 0x0123456789abcdefL};
        for (long k : words) {
            for (long l : words) {
                CookieListener y = new CookieListener();
                y.key(k, l);
                for (long m : words) {
                    for (long n : words) {
                        check.due("hash(" + m + ", " + n + ") with key " + k + " " + l,
                                y.hash(m, n), Model.sipHash(k, l, m, n));
                    }
                }
            }
        }
        check.told("hashing changes nothing", x, 0, 0, 0, 0, 0, 0, 0, 0);
        check.end();
    }
}
