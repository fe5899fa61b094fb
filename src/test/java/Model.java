import java.nio.ByteBuffer;
import java.nio.ByteOrder;
import java.util.ArrayList;
import java.util.HashMap;
import java.util.List;
import java.util.Map;

/**
 * The document once more, written another way (maps and lists, the hash over bytes), so that long
 * runs can be held against it. It looks at no wrong arguments.
 */
final class Model {
    private record Half(int number, int answer, int kind, int asked) {
    }

    private record Waiting(String caller, int port, int kind) {
    }

    private final Map<String, Half> halves = new HashMap<>();
    private final List<Waiting> queue = new ArrayList<>();
    private final List<String> taken = new ArrayList<>();
    private int size = 4;
    private int room = 2;
    private long k = 0;
    private long l = 0;
    private int time = 0;
    private Integer cookiesTime = null;
    private final int[] counts = new int[4];

    static long sipHash(long k, long l, long m, long n) {
        byte[] bytes = ByteBuffer.allocate(16).order(ByteOrder.LITTLE_ENDIAN).putLong(m).putLong(n).array();
        long[] v = {
            k ^ 0x736f6d6570736575L, l ^ 0x646f72616e646f6dL, k ^ 0x6c7967656e657261L, l ^ 0x7465646279746573L,
        };
        int whole = bytes.length / 8;
        for (int word = 0; word <= whole; word++) {
            long w = word == whole ? (long) bytes.length << 56 : 0;
            for (int i = 0; i < 8 && word * 8 + i < bytes.length; i++) {
                w |= (bytes[word * 8 + i] & 255L) << (8 * i);
            }
            v[3] ^= w;
            sipRound(v);
            sipRound(v);
            v[0] ^= w;
        }
        v[2] ^= 0xff;
        for (int i = 0; i < 4; i++) {
            sipRound(v);
        }
        return v[0] ^ v[1] ^ v[2] ^ v[3];
    }

    private static void sipRound(long[] v) {
        halfRound(v, 0, 1, 13, true);
        halfRound(v, 2, 3, 16, false);
        halfRound(v, 0, 3, 21, false);
        halfRound(v, 2, 1, 17, true);
    }

    private static void halfRound(long[] v, int a, int b, int by, boolean swap) {
        v[a] += v[b];
        v[b] = Long.rotateLeft(v[b], by) ^ v[a];
        if (swap) {
            v[a] = Long.rotateLeft(v[a], 32);
        }
    }

    private static String name(int address, int port) {
        return address + ":" + port;
    }

    private Waiting waiting(String caller) {
        for (Waiting w : queue) {
            if (w.caller.equals(caller)) {
                return w;
            }
        }
        return null;
    }

    private boolean hasRoom() {
        return queue.size() < room && queue.size() + taken.size() < 64;
    }

    void rooms(int newSize, int newRoom) {
        size = newSize;
        room = newRoom;
    }

    void key(long newK, long newL) {
        k = newK;
        l = newL;
    }

    int pass(int seconds) {
        time += seconds;
        halves.values().removeIf(h -> h.asked + 60 <= time);
        return time;
    }

    long syn(int address, int port, int number, int greatest) {
        String caller = name(address, port);
        int state = state(address, port);
        if (state >= 2) {
            return -1;
        }
        if (state == 1 && halves.get(caller).number == number) {
            return Integer.toUnsignedLong(halves.get(caller).answer);
        }
        halves.remove(caller);
        int kind = greatest >= 4096 ? 7 : greatest >= 1460 ? 6 : greatest >= 1440 ? 5 : greatest >= 1220 ? 4
                : greatest >= 1024 ? 3 : greatest >= 536 ? 2 : greatest >= 256 ? 1 : 0;
        long cookie = cookie(address, port, number, kind, time / 64);
        if (halves.size() < size) {
            cookie ^= 0xFF000000L;
            halves.put(caller, new Half(number, (int) cookie, kind, time));
        } else {
            counts[0]++;
            cookiesTime = time;
        }
        return cookie;
    }

    int ack(int address, int port, int s, int a) {
        String caller = name(address, port);
        int state = state(address, port);
        if (state >= 2) {
            return 1;
        }
        if (state == 1) {
            Half half = halves.get(caller);
            if (half.number + 1 != s || half.answer + 1 != a) {
                return 4;
            }
            if (!hasRoom()) {
                return 3;
            }
            halves.remove(caller);
            queue.add(new Waiting(caller, port, half.kind));
            counts[1]++;
            return 2;
        }
        if (cookiesTime == null || cookiesTime + 128 < time) {
            counts[3]++;
            return 8;
        }
        long c = Integer.toUnsignedLong(a - 1);
        int kind = (int) (c / (1 << 24) % 8);
        boolean good = c == cookie(address, port, s - 1, kind, time / 64)
                || time >= 64 && c == cookie(address, port, s - 1, kind, time / 64 - 1);
        if (!good) {
            counts[3]++;
            return 7;
        }
        if (!hasRoom()) {
            return 6;
        }
        queue.add(new Waiting(caller, port, kind));
        counts[2]++;
        return 5;
    }

    int take() {
        if (queue.isEmpty()) {
            return -1;
        }
        Waiting first = queue.remove(0);
        taken.add(first.caller);
        return first.port + 65536 * first.kind;
    }

    int close(int address, int port) {
        String caller = name(address, port);
        int state = state(address, port);
        halves.remove(caller);
        queue.remove(waiting(caller));
        taken.remove(caller);
        return state;
    }

    int state(int address, int port) {
        String caller = name(address, port);
        return taken.contains(caller) ? 3 : waiting(caller) != null ? 2 : halves.containsKey(caller) ? 1 : 0;
    }

    long cookie(int address, int port, int number, int kind, int slot) {
        long m = ((long) address << 32) + Integer.toUnsignedLong(number);
        long n = port + kind * 65536L + slot * 1048576L;
        return slot % 32 * (1L << 27) + kind * (1L << 24) + Math.floorMod(sipHash(k, l, m, n), 1L << 24);
    }

    int told(int what) {
        int[] all = {
            halves.size(), queue.size(), queue.size() + taken.size(), counts[0], counts[1], counts[2], counts[3], time,
        };
        return all[what];
    }
}
