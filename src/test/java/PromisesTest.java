/** Each promise on ordinary inputs, at the edges that the document names, and on wrong inputs. */
public final class PromisesTest {
    private static final int NONE = PeerLine.NONE;
    private static final int[] FAR = {Integer.MIN_VALUE, -1, Integer.MAX_VALUE};

    public static void main(String[] args) {
        newObject();
        feed();
        feedLimit();
        end();
        rule();
        ruleNumbers();
        ruleTexts();
        ruleCount();
        spawn();
        spawnForgets();
        send();
        sendWithoutPeer();
        sendLongLine();
        firstRuleOfState();
        put();
        come();
        comeOrder();
        comeLimit();
        comeBufferLimit();
        fit();
        take();
        pass();
        total();
        transcriptLimit();
        transcriptFullBySending();
        Check.done();
    }

    private static void newObject() {
        PeerLine x = new PeerLine();
        for (int what = 0; what <= 5; what++) {
            Check.same("1 total(" + what + ")", x.total(what), 0);
        }
        Check.same("1 time", x.pass(0), 0);
        Check.same("1 buffer", x.bufferAt(0), NONE);
        Check.same("1 transcript", x.toldAt(0), NONE);
        Check.no("1 tape", x.end(1));
        Check.same("1 come", x.come(Long.MAX_VALUE), NONE);
        Check.no("1 peer", x.send());
        Check.same("1 NONE", NONE, -1);
        PeerLine y = new PeerLine();
        Check.put(x, "x");
        Check.same("1 objects are apart", y.total(3), 0);
    }

    private static void feed() {
        PeerLine x = new PeerLine();
        Check.yes("2 feed", x.feed(0x01020304, 0xFFFEFDFC, 0x80000000, 0x0000007F, 0x61626364));
        Check.yes("2 twenty bytes", x.end(20));
        x.put();
        Check.transcriptIs("2 highest first", x, "\3\1\2\3\4\u00ff\u00fe\u00fd\u00fc\u0080\0\0\0\0\0\0\u007fabcd\n");
    }

    private static void feedLimit() {
        PeerLine x = new PeerLine();
        for (int i = 0; i < 51; i++) {
            Check.yes("2 feed " + i, x.feed(i, 0, 0, 0, 0));
        }
        Check.no("2 feed above 1024", x.feed(0, 0, 0, 0, 0));
        Check.no("2 nothing changed", x.end(1021));
        Check.yes("2 back to 1005", x.end(1005));
        Check.no("2 feed to 1025", x.feed(0, 0, 0, 0, 0));
        Check.yes("2 back to 1004", x.end(1004));
        Check.yes("2 feed to 1024", x.feed(0, 0, 0, 0, 'z'));
        Check.no("2 feed when full", x.feed(0, 0, 0, 0, 0));
        x.put();
        Check.same("2 all of it put out", x.total(3), 1026);
        Check.same("2 first number", x.toldAt(4), 0);
        Check.same("2 second number", x.toldAt(24), 1);
        Check.same("2 last byte", x.toldAt(1024), 'z');
    }

    private static void end() {
        PeerLine x = new PeerLine();
        Check.yes("3 end(0) of none", x.end(0));
        Check.tape(x, "abcdef");
        Check.no("3 end(7) of 6", x.end(7));
        for (int n : FAR) {
            Check.no("3 end(" + n + ")", x.end(n));
        }
        Check.yes("3 end(6) of 6", x.end(6));
        Check.yes("3 end(2)", x.end(2));
        Check.no("3 end(3) of 2", x.end(3));
        x.feed(0x78790000, 0, 0, 0, 0);
        x.end(4);
        x.put();
        Check.transcriptIs("3 what counts", x, "\3abxy\n");
        Check.tape(x, "abc");
        Check.yes("3 end(0)", x.end(0));
        x.put();
        Check.transcriptIs("3 nothing counts", x, "\3abxy\n\3\n");
    }

    private static void rule() {
        PeerLine x = new PeerLine();
        Check.same("4 first number", Check.rule(x, 0, "a", "A", 0, 0), 0);
        Check.no("4 tape is empty then", x.end(1));
        Check.same("4 second number", Check.rule(x, 31, "b", "B", 1000, 31), 1);
        Check.same("4 rules", x.total(4), 2);
        Check.tape(x, "no zero");
        Check.same("4 no byte 0", x.rule(0, 0, 0), NONE);
        Check.no("4 tape is empty then too", x.end(1));
        Check.same("4 empty tape", x.rule(0, 0, 0), NONE);
        Check.same("4 rules still", x.total(4), 2);
        Check.same("4 empty pattern and answer", Check.rule(x, 0, "", "", 0, 0), 2);
        PeerLine y = new PeerLine();
        Check.rule(y, 0, "a\\", "b\0c", 0, 0);
        y.spawn();
        Check.send(y, "a\\\n");
        Check.same("4 the first 0 parts", y.come(0), 0);
        Check.bufferIs("4 a later 0 is of the answer", y, "b\0c");
    }

    private static void ruleNumbers() {
        PeerLine x = new PeerLine();
        int[][] wrong = {{-1, 0, 0}, {32, 0, 0}, {0, -1, 0}, {0, 1001, 0}, {0, 0, -1}, {0, 0, 32},
            {Integer.MIN_VALUE, 0, 0}, {0, Integer.MIN_VALUE, 0}, {0, 0, Integer.MIN_VALUE},
            {Integer.MAX_VALUE, 0, 0}, {0, Integer.MAX_VALUE, 0}, {0, 0, Integer.MAX_VALUE}};
        for (int[] w : wrong) {
            Check.same("4 rule(" + w[0] + ", " + w[1] + ", " + w[2] + ")",
                    Check.rule(x, w[0], "a", "b", w[1], w[2]), NONE);
            Check.no("4 tape is empty after a wrong number", x.end(1));
        }
        Check.same("4 no rule of these", x.total(4), 0);
        Check.same("4 lowest numbers", Check.rule(x, 0, "a", "b", 0, 0), 0);
        Check.same("4 highest numbers", Check.rule(x, 31, "a", "b", 1000, 31), 1);
    }

    private static void ruleTexts() {
        PeerLine x = new PeerLine();
        String full = Check.many("p", 200);
        Check.same("4 pattern of 201", Check.rule(x, 0, full + "p", "", 0, 0), NONE);
        Check.same("4 answer of 201", Check.rule(x, 0, "", full + "p", 0, 0), NONE);
        Check.same("4 both of 200", Check.rule(x, 0, full, full, 0, 0), 0);
        x.spawn();
        Check.send(x, full + "\n");
        Check.same("4 the long one fits", x.come(0), 0);
        Check.bufferIs("4 the long one", x, full);
    }

    private static void ruleCount() {
        PeerLine x = new PeerLine();
        for (int i = 0; i < 64; i++) {
            Check.same("4 rule " + i, Check.rule(x, i == 63 ? 0 : 1, "a", "b", 7, 5), i);
        }
        Check.same("4 rule 64", Check.rule(x, 0, "c", "b", 0, 0), NONE);
        Check.no("4 tape is empty after rule 64", x.end(1));
        Check.same("4 rules", x.total(4), 64);
        x.spawn();
        Check.send(x, "c\na\n");
        Check.same("4 the last rule counts", x.total(0), 5);
        Check.same("4 one answer", x.total(1), 1);
    }

    private static void spawn() {
        PeerLine x = new PeerLine();
        Check.rule(x, 0, "*", "hello", 3, 2);
        Check.rule(x, 2, "*", "again", 4, 3);
        x.pass(10);
        x.spawn();
        Check.same("5 state behind the empty line", x.total(0), 2);
        Check.same("5 answers to come", x.total(1), 1);
        Check.same("5 nothing on the transcript", x.total(3), 0);
        Check.same("5 come before its time", x.come(12), NONE);
        Check.same("5 come", x.come(13), 13);
        Check.bufferIs("5 the first answer", x, "hello");
        PeerLine y = new PeerLine();
        Check.rule(y, 1, "*", "no", 0, 3);
        Check.rule(y, 0, "?*", "no", 0, 3);
        y.spawn();
        Check.same("5 no rule for an empty line", y.total(0), 0);
        Check.same("5 no answer", y.total(1), 0);
        Check.yes("5 there is a peer", y.send());
    }

    private static void spawnForgets() {
        PeerLine x = new PeerLine();
        Check.rule(x, 0, "go", "ab", 5, 7);
        Check.rule(x, 7, "go", "cd", 50, 9);
        x.spawn();
        Check.send(x, "go\ngo\nhalf");
        Check.same("5 state before", x.total(0), 9);
        Check.same("5 come before", x.come(5), 5);
        Check.tape(x, "go\n");
        x.spawn();
        Check.same("5 state", x.total(0), 0);
        Check.same("5 to come", x.total(1), 0);
        Check.same("5 buffer", x.total(2), 0);
        Check.same("5 line", x.total(5), 0);
        Check.same("5 rules stay", x.total(4), 2);
        Check.same("5 transcript stays", x.total(3), 14);
        Check.same("5 time stays", x.pass(0), 5);
        Check.yes("5 tape stays", x.end(3));
        Check.yes("5 send", x.send());
        Check.same("5 a line of its own", x.total(0), 7);
        Check.same("5 come none", x.come(9), NONE);
        Check.same("5 come", x.come(10), 10);
        Check.bufferIs("5 what came since", x, "ab");
    }

    private static void send() {
        PeerLine x = new PeerLine();
        Check.rule(x, 0, "one", "1", 0, 1);
        Check.rule(x, 1, "", "2", 0, 2);
        Check.rule(x, 2, "t\0wo", "lost by the first 0", 0, 3);
        Check.rule(x, 2, "three", "3", 0, 4);
        x.spawn();
        Check.yes("6 half a line", Check.send(x, "on"));
        Check.same("6 line", x.total(5), 2);
        Check.same("6 state", x.total(0), 0);
        Check.yes("6 the other half and more", Check.send(x, "e\n\nnot\nthr"));
        Check.no("6 tape is empty then", x.end(1));
        Check.same("6 line again", x.total(5), 3);
        Check.same("6 state again", x.total(0), 2);
        Check.same("6 answers", x.total(1), 2);
        Check.yes("6 nothing sent", x.send());
        Check.yes("6 the end", Check.send(x, "ee\n"));
        Check.same("6 line behind it", x.total(5), 0);
        Check.same("6 last state", x.total(0), 4);
        Check.transcriptIs("6", x, "\1on\1e\n\nnot\nthr\1\1ee\n");
    }

    private static void sendWithoutPeer() {
        PeerLine x = new PeerLine();
        Check.rule(x, 0, "*", "a", 0, 1);
        Check.no("6 no peer", Check.send(x, "line\nmore"));
        Check.no("6 tape is empty", x.end(1));
        for (int what = 0; what <= 5; what++) {
            Check.same("6 no peer, total(" + what + ")", x.total(what), what == 4 ? 1 : 0);
        }
    }

    private static void sendLongLine() {
        PeerLine x = new PeerLine();
        Check.rule(x, 0, "a*b", "fits", 0, 1);
        Check.rule(x, 1, "c*b", "fits not", 0, 2);
        x.spawn();
        Check.send(x, "a" + Check.many("-", 1022));
        Check.same("6 line of 1023", x.total(5), 1023);
        Check.send(x, "bccc");
        Check.same("6 line of 1024 and no more", x.total(5), 1024);
        Check.send(x, "c\n");
        Check.same("6 the first 1024 count", x.total(0), 1);
        Check.send(x, "c" + Check.many("-", 1023));
        Check.send(x, "b\n");
        Check.same("6 byte 1025 does not", x.total(0), 1);
    }

    private static void firstRuleOfState() {
        PeerLine x = new PeerLine();
        Check.rule(x, 3, "a*", "wrong state", 0, 9);
        Check.rule(x, 0, "b*", "wrong pattern", 0, 9);
        Check.rule(x, 0, "a*", "first", 0, 3);
        Check.rule(x, 0, "ab", "second", 0, 9);
        x.spawn();
        Check.send(x, "ab\n");
        Check.same("6 the first rule that fits", x.total(0), 3);
        x.come(0);
        Check.bufferIs("6 its answer", x, "first");
        Check.send(x, "b\n");
        Check.same("6 no rule of the state", x.total(0), 3);
        Check.same("6 no answer", x.total(1), 0);
    }

    private static void put() {
        PeerLine x = new PeerLine();
        Check.put(x, "one");
        Check.no("7 tape is empty then", x.end(1));
        x.put();
        Check.put(x, "t\nwo\n");
        Check.transcriptIs("7", x, "\3one\n\3\n\3t\nwo\n\n");
        x.spawn();
        Check.put(x, "x\n");
        Check.same("7 the peer gets nothing", x.total(5), 0);
        Check.same("7 the buffer neither", x.total(2), 0);
    }

    private static void come() {
        PeerLine x = new PeerLine();
        Check.rule(x, 0, "now", "n", 0, 0);
        Check.rule(x, 0, "late", "\u00ff\0", 1000, 0);
        Check.rule(x, 0, "mute", "", 0, 0);
        x.spawn();
        Check.same("8 none to come", x.come(Long.MAX_VALUE), NONE);
        Check.send(x, "late\nnow\n");
        Check.same("8 until below", x.come(-1), NONE);
        Check.same("8 far below", x.come(Long.MIN_VALUE), NONE);
        Check.same("8 at once", x.come(0), 0);
        Check.same("8 not yet", x.come(999), NONE);
        Check.same("8 time stands", x.pass(0), 0);
        Check.same("8 to come still", x.total(1), 1);
        Check.same("8 time goes on", x.come(Long.MAX_VALUE), 1000);
        Check.same("8 time then", x.pass(0), 1000);
        Check.same("8 none more", x.total(1), 0);
        Check.send(x, "late\n");
        x.pass(5000);
        Check.same("8 its own time counts for until", x.come(1999), NONE);
        Check.same("8 time does not go back", x.come(2000), 6000);
        Check.send(x, "mute\n");
        Check.same("8 an empty answer comes", x.come(6000), 6000);
        Check.bufferIs("8", x, "n\u00ff\0\u00ff\0");
        Check.transcriptIs("8", x, "\1late\nnow\n\2n\2\u00ff\0\1late\n\2\u00ff\0\1mute\n\2");
    }

    private static void comeOrder() {
        PeerLine x = new PeerLine();
        Check.rule(x, 0, "a", "a", 5, 0);
        Check.rule(x, 0, "b", "b", 5, 0);
        Check.rule(x, 0, "c", "c", 4, 0);
        Check.rule(x, 0, "d", "d", 6, 0);
        x.spawn();
        Check.send(x, "d\nb\na\nc\nb\n");
        x.pass(1);
        Check.send(x, "c\na\n");
        long[] times = {4, 5, 5, 5, 5, 6, 6};
        for (long time : times) {
            Check.same("8 in order", x.come(100), time);
        }
        Check.bufferIs("8 of one time as given", x, "cbabcda");
    }

    private static void comeLimit() {
        PeerLine x = new PeerLine();
        Check.rule(x, 0, "a", "a", 5, 0);
        Check.rule(x, 0, "z", "z", 0, 1);
        x.spawn();
        Check.send(x, Check.many("a\n", 63));
        Check.same("8 63 to come", x.total(1), 63);
        Check.send(x, "a\nz\n");
        Check.same("8 64 to come", x.total(1), 64);
        Check.same("8 the lost one's state counts", x.total(0), 1);
        for (int i = 0; i < 64; i++) {
            Check.same("8 come " + i, x.come(5), 5);
        }
        Check.same("8 no more", x.come(5), NONE);
        Check.bufferIs("8 the 65th is lost", x, Check.many("a", 64));
    }

    private static void comeBufferLimit() {
        PeerLine x = new PeerLine();
        Check.rule(x, 0, "a", Check.many("a", 200), 0, 0);
        Check.rule(x, 0, "b", Check.many("b", 24), 0, 0);
        Check.rule(x, 0, "c", "cd", 0, 0);
        x.spawn();
        Check.send(x, "b\na\na\na\na\na\nc\nb\n");
        for (int i = 0; i < 6; i++) {
            x.come(0);
        }
        Check.same("8 buffer of 1024", x.total(2), 1024);
        Check.same("8 its first", x.bufferAt(0), 'b');
        x.come(0);
        Check.bufferIs("8 the first ones go", x, Check.many("b", 22) + Check.many("a", 1000) + "cd");
        Check.same("8 the last b", x.bufferAt(21), 'b');
        Check.same("8 the first a", x.bufferAt(22), 'a');
        x.come(0);
        Check.bufferIs("8 more go", x, Check.many("a", 998) + "cd" + Check.many("b", 24));
        Check.same("8 the last a", x.bufferAt(997), 'a');
        Check.same("8 the c", x.bufferAt(998), 'c');
    }

    private static void fit() {
        PeerLine x = Made.withBuffer("login: name\npassword: ");
        Check.same("9 in the middle", Check.fit(x, "name"), 11);
        Check.no("9 tape is empty then", x.end(1));
        Check.same("9 the shortest", Check.fit(x, ": "), 7);
        Check.same("9 with a star", Check.fit(x, "n*s"), 15);
        Check.same("9 at the end", Check.fit(x, "d: "), 22);
        Check.same("9 all of it", Check.fit(x, "login:*password: "), 22);
        Check.same("9 none", Check.fit(x, "nome"), NONE);
        Check.no("9 tape is empty then too", x.end(1));
        Check.same("9 beyond the end", Check.fit(x, ": ?a*: ?"), NONE);
        Check.same("9 empty pattern", x.fit(), 0);
        Check.same("9 star", Check.fit(x, "*"), 0);
        Check.same("9 star behind", Check.fit(x, "og*"), 3);
        Check.same("9 buffer stays", x.total(2), 22);
        PeerLine y = new PeerLine();
        Check.same("9 empty buffer", Check.fit(y, "**"), 0);
        Check.same("9 empty buffer, one byte", Check.fit(y, "?"), NONE);
        PeerLine z = Made.withBuffer(Check.many("ab", 99) + "\0c");
        Check.same("9 byte 0 is itself", Check.fit(z, "\0"), 199);
        Check.same("9 a pattern of 1024", Check.fit(z, Check.many("*", 1023) + "c"), 200);
    }

    private static void take() {
        PeerLine x = Made.withBuffer("abcdef");
        Check.no("10 too many", x.take(7));
        for (int n : FAR) {
            Check.no("10 take(" + n + ")", x.take(n));
        }
        Check.bufferIs("10 nothing went", x, "abcdef");
        Check.yes("10 none", x.take(0));
        Check.yes("10 two", x.take(2));
        Check.bufferIs("10 the first ones went", x, "cdef");
        Check.yes("10 all", x.take(4));
        Check.bufferIs("10 nothing left", x, "");
        Check.no("10 one of none", x.take(1));
        Check.same("10 transcript stays", x.total(3), 8);
    }

    private static void pass() {
        PeerLine x = new PeerLine();
        Check.same("11 pass(5)", x.pass(5), 5);
        Check.same("11 pass(0)", x.pass(0), 5);
        Check.same("11 pass(-1)", x.pass(-1), 5);
        Check.same("11 pass(lowest)", x.pass(Long.MIN_VALUE), 5);
        Check.same("11 pass(999999)", x.pass(999999), 1000004);
        Check.same("11 pass(1000000)", x.pass(1000000), 2000004);
        Check.same("11 pass(1000001)", x.pass(1000001), 3000004);
        Check.same("11 pass(highest)", x.pass(Long.MAX_VALUE), 4000004);
        PeerLine y = new PeerLine();
        for (long i = 1; i <= 300; i++) {
            Check.same("11 often", y.pass(1L << 40), i * 1000000);
        }
        for (long i = 301; i <= 512; i++) {
            Check.same("11 more often", y.pass(1L << 33), i * 1000000);
        }
    }

    private static void total() {
        PeerLine x = new PeerLine();
        Check.rule(x, 0, "a", "abc", 0, 31);
        Check.rule(x, 31, "b", "de", 9, 31);
        x.spawn();
        Check.send(x, "a\nb\nb\nrest!");
        x.come(0);
        int[] want = {31, 2, 3, 16, 2, 5};
        for (int what = 0; what < want.length; what++) {
            Check.same("12 total(" + what + ")", x.total(what), want[what]);
        }
        Check.same("12 total(6)", x.total(6), NONE);
        for (int n : FAR) {
            Check.same("12 total(" + n + ")", x.total(n), NONE);
            Check.same("13 bufferAt(" + n + ")", x.bufferAt(n), NONE);
            Check.same("14 toldAt(" + n + ")", x.toldAt(n), NONE);
        }
        Check.bufferIs("13", x, "abc");
        Check.transcriptIs("14", x, "\1a\nb\nb\nrest!\2abc");
        PeerLine y = Made.withBuffer("\u0080\u00ff\177\0");
        Check.bufferIs("13 high bytes", y, "\u0080\u00ff\177\0");
        Check.transcriptIs("14 high bytes", y, "\1\2\u0080\u00ff\177\0");
    }

    /** A transcript that has no room for one of the answers that are still to come. */
    private static PeerLine almostFullTranscript() {
        PeerLine x = Made.answering(Check.many("r", 200));
        int told = 0;
        for (int round = 0; round < 3; round++) {
            Check.send(x, Check.many("x\n", 60));
            told += 121;
            for (int i = 0; i < 60 && told + 201 <= 32768; i++) {
                x.come(0);
                told += 201;
            }
            Check.same("14 transcript in round " + round, x.total(3), told);
        }
        return x;
    }

    private static void transcriptLimit() {
        PeerLine x = almostFullTranscript();
        int told = x.total(3);
        int left = 32768 - told;
        x.take(x.total(2));
        int before = x.total(1);
        Check.same("14 it comes all the same", x.come(0), 0);
        Check.same("14 one less to come", x.total(1), before - 1);
        Check.bufferIs("14 in the buffer all the same", x, Check.many("r", 200));
        Check.same("14 left out", x.total(3), told);
        Check.put(x, Check.many("p", left - 1));
        Check.same("14 put out with one byte too many", x.total(3), told);
        Check.yes("14 sent with one byte too many", Check.send(x, Check.many("s", left)));
        Check.same("14 left out too", x.total(3), told);
        Check.same("14 sent to the peer all the same", x.total(5), left);
        Check.put(x, Check.many("p", left - 2));
        Check.same("14 full to the last byte", x.total(3), 32768);
        Check.same("14 last byte", x.toldAt(32767), 10);
        Check.same("14 byte before", x.toldAt(32766), 'p');
        Check.same("14 its kind", x.toldAt(told), 3);
        Check.same("14 behind the last", x.toldAt(32768), NONE);
        x.put();
        Check.yes("14 nothing sent", x.send());
        Check.same("14 nothing more", x.total(3), 32768);
    }

    private static void transcriptFullBySending() {
        PeerLine x = almostFullTranscript();
        int left = 32768 - x.total(3);
        Check.send(x, Check.many("e", left));
        Check.same("14 sent with one byte too many", x.total(3), 32768 - left);
        Check.send(x, Check.many("e", left - 1));
        Check.same("14 full by sending", x.total(3), 32768);
        Check.same("14 kind of the last", x.toldAt(32768 - left), 1);
        Check.same("14 last byte sent", x.toldAt(32767), 'e');
    }
}
