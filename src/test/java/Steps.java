/** Short ways to bring a listener into a state. */
final class Steps {
    private Steps() {
    }

    /** A caller comes back with the listener's number that it was given: the answer of its ack. */
    static int ack(CookieListener x, int address, int port, int number, long answer) {
        return x.ack(address, port, number + 1, (int) answer + 1);
    }

    /** A caller asks and comes back: the answer of its ack. */
    static int open(CookieListener x, int address, int port, int number, int size) {
        return ack(x, address, port, number, x.syn(address, port, number, size));
    }

    /** So many taken ones, at addresses 1000, 1001 ..., port 1, by way of halves. */
    static void openAndTake(CookieListener x, int many) {
        for (int i = 0; i < many; i++) {
            open(x, 1000 + i, 1, i, 1460);
            x.take();
        }
    }

    /** So many waiting ones, at addresses 2000, 2001 ..., port 2, by way of halves. */
    static void openAndLeave(CookieListener x, int many) {
        for (int i = 0; i < many; i++) {
            open(x, 2000 + i, 2, i, 1460);
        }
    }

    /** A listener that keeps no halves and has given one cookie now, to a caller that is not used elsewhere. */
    static CookieListener withCookies() {
        CookieListener x = new CookieListener();
        x.rooms(0, 16);
        giveACookie(x);
        return x;
    }

    /** For a listener that has no room for halves. */
    static void giveACookie(CookieListener x) {
        x.syn(-77, 77, 77, 77);
    }

    /** A new listener to which so much time has gone by. */
    static CookieListener at(int time) {
        CookieListener x = new CookieListener();
        int left = time;
        while (left > 10000) {
            x.pass(10000);
            left -= 10000;
        }
        x.pass(left);
        return x;
    }
}
