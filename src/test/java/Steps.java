/** Short ways to bring a listener into a state. */
final class Steps {
    private Steps() {
    }

    /** A caller asks and comes back: the answer of its ack. */
    static int open(CookieListener x, int address, int port, int number, int size) {
        long answer = x.syn(address, port, number, size);
        return x.ack(address, port, number + 1, (int) answer + 1);
    }

    /** So many taken ones, at addresses 1000, 1001 ..., port 1, by way of halves. */
    static void openAndTake(CookieListener x, int many) {
        for (int i = 0; i < many; i++) {
            open(x, 1000 + i, 1, i, 1460);
            x.take();
        }
    }

    /** A listener that keeps no halves and has given one cookie now, to a caller that is not used elsewhere. */
    static CookieListener withCookies() {
        CookieListener x = new CookieListener();
        x.rooms(0, 16);
        x.syn(-77, 77, 77, 77);
        return x;
    }
}
