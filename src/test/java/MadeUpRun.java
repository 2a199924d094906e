import java.util.Random;

/** A made-up run on one object, each call's answer compared with SlowPeer's. */
final class MadeUpRun {
    static final int CALLS_OF_AN_OBJECT = 512;
    /** An act is begun only with so many calls left: the longest texts take some forty. */
    private static final int CALLS_OF_AN_ACT = 42;
    private static final String[] ALPHABETS = {"ab", "ab\n", "abc-]\\[*?", "ab[]-", "a*b*?", "\0\n\1\177\u0080\u00ffab", "\\]-a["};
    private static final int[] EDGES = {Integer.MIN_VALUE, -1, 0, 1, 5, 6, 31, 32, 64, 200, 1000, 1001, 1024, 32767, 32768, Integer.MAX_VALUE};
    private static final long[] LONG_EDGES = {Long.MIN_VALUE, -1, 0, 1, 1000000, 1000001, 1L << 32, Long.MAX_VALUE};

    private final Random random;
    private final String name;
    private final PeerLine x = new PeerLine();
    private final SlowPeer y = new SlowPeer();
    private int calls = 0;

    MadeUpRun(int number) {
        // Of numbers close to each other, Random would make beginnings that are alike.
        random = new Random(number * 0x9E3779B97F4A7C15L);
        name = "run " + number;
    }

    /** As many calls as chance will have it, often far fewer than an object has. */
    int someLength() {
        return random.nextInt(20) == 0 ? CALLS_OF_AN_OBJECT - CALLS_OF_AN_ACT : random.nextInt(200);
    }

    int calls() {
        return calls;
    }

    void begin() {
        boolean early = random.nextInt(4) != 0;
        for (int i = random.nextInt(12); i > 0; i--) {
            rule();
        }
        if (early) {
            spawn();
        }
    }

    /** Goes on by an act; close to the object's last call by one call alone. */
    void goOn() {
        if (calls <= CALLS_OF_AN_OBJECT - CALLS_OF_AN_ACT) {
            act();
        } else {
            oneCall();
        }
    }

    private void act() {
        switch (random.nextInt(14)) {
            case 0 -> rule();
            case 1 -> {
                if (random.nextInt(6) == 0) {
                    spawn();
                }
            }
            case 2, 3, 4 -> {
                tape(text(random.nextInt(10) == 0 ? 300 : 14) + (random.nextBoolean() ? "\n" : ""));
                same("send", x.send() ? 1 : 0, y.send() ? 1 : 0);
            }
            case 5 -> {
                tape(text(12));
                put();
            }
            case 8, 9 -> {
                tape(text(random.nextInt(8) == 0 ? 60 : 5));
                same("fit", x.fit(), y.fit());
            }
            case 12 -> tape(text(30));
            case 13 -> look();
            default -> oneCall();
        }
    }

    private void oneCall() {
        switch (random.nextInt(8)) {
            case 0, 1, 2 -> come();
            case 3 -> {
                int n = number(20);
                same("take " + n, x.take(n) ? 1 : 0, y.take(n) ? 1 : 0);
            }
            case 4 -> {
                long n = random.nextInt(8) == 0 ? LONG_EDGES[random.nextInt(LONG_EDGES.length)] : random.nextInt(400);
                same("pass " + n, x.pass(n), y.pass(n));
            }
            case 5 -> {
                int n = number(32);
                same("end " + n, x.end(n) ? 1 : 0, y.end(n) ? 1 : 0);
            }
            case 6 -> {
                int what = random.nextInt(8) - 1;
                same("total " + what, x.total(what), y.total(what));
            }
            default -> told();
        }
    }

    private void look() {
        for (int what = -1; what <= 6; what++) {
            same("total " + what, x.total(what), y.total(what));
        }
        int b = number(y.total(2) + 1);
        same("bufferAt " + b, x.bufferAt(b), y.bufferAt(b));
        told();
    }

    private void told() {
        int t = number(y.total(3) + 1);
        same("toldAt " + t, x.toldAt(t), y.toldAt(t));
    }

    private void come() {
        long until = random.nextInt(5) == 0 ? LONG_EDGES[random.nextInt(LONG_EDGES.length)] : y.pass(0) + random.nextInt(900);
        same("come " + until, x.come(until), y.come(until));
    }

    private void rule() {
        String zero = random.nextInt(12) == 0 ? "" : "\0";
        tape(text(random.nextInt(12) == 0 ? 220 : 5).replace("\0", "") + zero + text(random.nextInt(6) == 0 ? 220 : 8));
        int state = random.nextInt(30) == 0 ? number(40) : random.nextInt(3);
        int delay = random.nextInt(30) == 0 ? number(1100) : random.nextInt(4) * random.nextInt(100);
        int next = random.nextInt(30) == 0 ? number(40) : random.nextInt(3);
        same("rule " + state + " " + delay + " " + next, x.rule(state, delay, next), y.rule(state, delay, next));
    }

    private void spawn() {
        x.spawn();
        y.spawn();
        calls++;
    }

    private void put() {
        x.put();
        y.put();
        calls++;
    }

    private int number(int below) {
        return random.nextInt(10) == 0 ? EDGES[random.nextInt(EDGES.length)] : random.nextInt(Math.max(1, below));
    }

    private String text(int most) {
        String alphabet = ALPHABETS[random.nextInt(ALPHABETS.length)];
        StringBuilder made = new StringBuilder();
        for (int i = random.nextInt(most + 1); i > 0; i--) {
            made.append(alphabet.charAt(random.nextInt(alphabet.length())));
        }
        return made.toString();
    }

    private void tape(String text) {
        byte[] all = Check.bytes(text);
        for (int at = 0; at < all.length; at += 20) {
            int[] n = new int[5];
            for (int i = at; i < at + 20 && i < all.length; i++) {
                n[(i - at) / 4] |= (all[i] & 255) << 24 - 8 * ((i - at) % 4);
            }
            same("feed", x.feed(n[0], n[1], n[2], n[3], n[4]) ? 1 : 0, y.feed(n) ? 1 : 0);
        }
        same("end " + all.length, x.end(all.length) ? 1 : 0, y.end(all.length) ? 1 : 0);
    }

    private void same(String call, long got, long want) {
        calls++;
        Check.same(name + ", call " + calls + ": " + call, got, want);
    }
}
