import java.nio.charset.StandardCharsets;

/** What the tests share: comparing answers, and bringing texts (one char a byte) on the tape. */
final class Check {
    private static int wrong = 0;
    private static int made = 0;

    private Check() {
    }

    static void same(String what, long got, long want) {
        made++;
        if (got != want) {
            wrong++;
            System.out.println(what + " answered " + got + ", due is " + want);
        }
    }

    static void yes(String what, boolean got) {
        same(what, got ? 1 : 0, 1);
    }

    static void no(String what, boolean got) {
        same(what, got ? 1 : 0, 0);
    }

    static boolean anyWrong() {
        return wrong != 0;
    }

    static void done() {
        System.out.println(made + " answers looked at, " + wrong + " not as due");
        if (wrong != 0) {
            System.exit(1);
        }
    }

    static byte[] bytes(String text) {
        return text.getBytes(StandardCharsets.ISO_8859_1);
    }

    private static int number(byte[] all, int from) {
        int value = 0;
        for (int i = from; i < from + 4; i++) {
            value = value << 8 | (i < all.length ? all[i] & 255 : 0);
        }
        return value;
    }

    private static boolean feedTwenty(PeerLine x, byte[] all, int from) {
        return x.feed(number(all, from), number(all, from + 4), number(all, from + 8),
                number(all, from + 12), number(all, from + 16));
    }

    /** Brings a text of up to 1024 bytes on an empty tape. */
    static void tape(PeerLine x, String text) {
        byte[] all = bytes(text);
        boolean fine = true;
        int at = 0;
        for (; at < all.length && at + 20 <= 1024; at += 20) {
            fine &= feedTwenty(x, all, at);
        }
        if (at < all.length) {
            fine &= x.end(all.length - 20) && feedTwenty(x, all, all.length - 20);
        }
        yes("bringing a text on the tape", fine && x.end(all.length));
    }

    static int rule(PeerLine x, int state, String pattern, String answer, int delay, int next) {
        tape(x, pattern + "\0" + answer);
        return x.rule(state, delay, next);
    }

    static boolean send(PeerLine x, String text) {
        tape(x, text);
        return x.send();
    }

    static int fit(PeerLine x, String pattern) {
        tape(x, pattern);
        return x.fit();
    }

    static void put(PeerLine x, String text) {
        tape(x, text);
        x.put();
    }

    static void tapeIsEmpty(String what, PeerLine x) {
        no(what + ": the tape has a byte", x.end(1));
    }

    /** So that a long text is looked at in some eighty calls: an object has only 512. */
    private static int nextPlace(int i, int length) {
        return i < 8 || i >= length - 8 ? i + 1 : Math.min(i + 1 + length / 64, length - 8);
    }

    static void bufferIs(String what, PeerLine x, String want) {
        byte[] all = bytes(want);
        same(what + ": bytes in the buffer", x.total(2), all.length);
        for (int i = 0; i < all.length; i = nextPlace(i, all.length)) {
            same(what + ": bufferAt(" + i + ")", x.bufferAt(i), all[i] & 255);
        }
        same(what + ": bufferAt behind the last", x.bufferAt(all.length), PeerLine.NONE);
    }

    static void transcriptIs(String what, PeerLine x, String want) {
        byte[] all = bytes(want);
        same(what + ": bytes on the transcript", x.total(3), all.length);
        for (int i = 0; i < all.length; i = nextPlace(i, all.length)) {
            same(what + ": toldAt(" + i + ")", x.toldAt(i), all[i] & 255);
        }
        same(what + ": toldAt behind the last", x.toldAt(all.length), PeerLine.NONE);
    }

    static String many(String text, int times) {
        return text.repeat(times);
    }
}
