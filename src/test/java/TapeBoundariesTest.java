/** The boundary cases of promises 1 to 3 (a new object, feed, end), one sentence a method. */
public final class TapeBoundariesTest {
    private static final int NONE = PeerLine.NONE;

    public static void main(String[] args) {
        newHasNoRules();
        newHasNoPeer();
        newHasTimeZero();
        newIsEmpty();
        newIsItsOwn();
        feedAppendsTwenty();
        feedHighestFirst();
        feedUpTo1024();
        feedAbove1024();
        feedRefusedChangesNothing();
        feedOnFullTape();
        feedBehindUse();
        endOfAll();
        endOfMoreThanAll();
        endBelowZero();
        endOfNone();
        endOfEmptyTape();
        endForgetsTheRest();
        endRefusedChangesNothing();
        endOfFullTape();
        Check.done();
    }

    private static PeerLine fedTimes(int times) {
        PeerLine x = new PeerLine();
        for (int i = 1; i <= times; i++) {
            Check.yes("2 feed " + i, x.feed(i, i, i, i, i));
        }
        return x;
    }

    private static void newHasNoRules() {
        PeerLine x = new PeerLine();
        Check.same("1 no rules", x.total(4), 0);
        x.spawn();
        Check.same("1 no rule answers the empty line", x.total(1), 0);
        Check.same("1 the first rule's number", Check.rule(x, 0, "", "", 0, 0), 0);
    }

    private static void newHasNoPeer() {
        PeerLine x = new PeerLine();
        Check.no("1 no peer", Check.send(x, "a\n"));
        Check.no("1 no peer for an empty tape", x.send());
        Check.same("1 nothing is to come from no peer", x.come(Long.MAX_VALUE), NONE);
    }

    private static void newHasTimeZero() {
        Check.same("1 time 0", new PeerLine().pass(0), 0);
        PeerLine x = new PeerLine();
        Check.rule(x, 0, "", "a", 0, 0);
        x.spawn();
        Check.same("1 an answer of time 0", x.come(0), 0);
    }

    private static void newIsEmpty() {
        PeerLine x = new PeerLine();
        for (int what = 0; what <= 5; what++) {
            Check.same("1 total(" + what + ")", x.total(what), 0);
        }
        Check.tapeIsEmpty("1 new", x);
        Check.same("1 the tape is no rule", x.rule(0, 0, 0), NONE);
        Check.same("1 no byte came", x.bufferAt(0), NONE);
        Check.no("1 no byte to take", x.take(1));
        Check.same("1 no byte told", x.toldAt(0), NONE);
    }

    private static void newIsItsOwn() {
        PeerLine x = Made.withBuffer("abc");
        x.pass(9);
        x.feed(1, 2, 3, 4, 5);
        PeerLine y = new PeerLine();
        for (int what = 0; what <= 5; what++) {
            Check.same("1 another object's total(" + what + ")", y.total(what), 0);
        }
        Check.same("1 another object's time", y.pass(0), 0);
        Check.tapeIsEmpty("1 another object", y);
        Check.no("1 another object's peer", y.send());
    }

    private static void feedAppendsTwenty() {
        PeerLine x = fedTimes(1);
        Check.no("2 not 21 bytes", x.end(21));
        Check.yes("2 but 20 bytes", x.end(20));
        PeerLine y = fedTimes(2);
        Check.no("2 not 41 bytes", y.end(41));
        Check.yes("2 but 40 bytes", y.end(40));
    }

    private static void feedHighestFirst() {
        PeerLine x = new PeerLine();
        x.feed(Integer.MIN_VALUE, Integer.MAX_VALUE, -1, 0, 0x01020304);
        x.feed(0x7f80ff00, -2, 10, 0x0a000000, 0x61626364);
        x.put();
        Check.transcriptIs("2 highest first", x, "\3\u0080\0\0\0\177\u00ff\u00ff\u00ff\u00ff\u00ff\u00ff\u00ff\0\0\0\0\1\2\3\4"
                + "\177\u0080\u00ff\0\u00ff\u00ff\u00ff\u00fe\0\0\0\n\n\0\0\0abcd\n");
    }

    private static void feedUpTo1024() {
        PeerLine x = fedTimes(51);
        Check.yes("2 back to 1004", x.end(1004));
        Check.yes("2 feed to 1024", x.feed(0x7a000000, 0, 0, 0, 0x79));
        Check.yes("2 1024 bytes count", x.end(1024));
        x.put();
        Check.same("2 1024 bytes put out", x.total(3), 1026);
        Check.same("2 byte 1003", x.toldAt(1004), 51);
        Check.same("2 byte 1004", x.toldAt(1005), 0x7a);
        Check.same("2 byte 1023", x.toldAt(1024), 0x79);
    }

    private static void feedAbove1024() {
        PeerLine x = fedTimes(51);
        Check.no("2 1040 bytes are too many", x.feed(0, 0, 0, 0, 0));
        Check.yes("2 back to 1005", x.end(1005));
        Check.no("2 1025 bytes are too many", x.feed(0, 0, 0, 0, 0));
    }

    private static void feedRefusedChangesNothing() {
        PeerLine x = fedTimes(51);
        Check.no("2 too many", x.feed(-1, -1, -1, -1, -1));
        Check.no("2 too many again", x.feed(-1, -1, -1, -1, -1));
        Check.no("2 not a byte more", x.end(1021));
        Check.yes("2 not a byte less", x.end(1020));
        x.put();
        Check.same("2 1020 bytes put out", x.total(3), 1022);
        Check.same("2 the first number", x.toldAt(4), 1);
        Check.same("2 the last number", x.toldAt(1020), 51);
        Check.same("2 the newline behind it", x.toldAt(1021), 10);
    }

    private static void feedOnFullTape() {
        PeerLine x = fedTimes(51);
        x.end(1004);
        x.feed(7, 7, 7, 7, 7);
        Check.no("2 full", x.feed(0, 0, 0, 0, 0));
        Check.no("2 no byte behind 1024", x.end(1025));
        Check.yes("2 all are there", x.end(1024));
    }

    private static void feedBehindUse() {
        PeerLine x = fedTimes(51);
        x.put();
        for (int i = 0; i < 51; i++) {
            Check.yes("2 an empty tape has room again", x.feed(i, 0, 0, 0, 0));
        }
        Check.no("2 up to 1024 again", x.feed(0, 0, 0, 0, 0));
    }

    private static void endOfAll() {
        PeerLine x = new PeerLine();
        Check.tape(x, "abc");
        Check.yes("3 all of it", x.end(3));
        Check.yes("3 all of it again", x.end(3));
        x.put();
        Check.transcriptIs("3 all of it", x, "\3abc\n");
    }

    private static void endOfMoreThanAll() {
        PeerLine x = new PeerLine();
        Check.tape(x, "abc");
        Check.no("3 one more than all", x.end(4));
        Check.no("3 the highest", x.end(Integer.MAX_VALUE));
    }

    private static void endBelowZero() {
        PeerLine x = new PeerLine();
        Check.tape(x, "abc");
        Check.no("3 -1", x.end(-1));
        Check.no("3 -3", x.end(-3));
        Check.no("3 the lowest", x.end(Integer.MIN_VALUE));
        PeerLine y = new PeerLine();
        Check.no("3 -1 of an empty tape", y.end(-1));
    }

    private static void endOfNone() {
        PeerLine x = new PeerLine();
        Check.tape(x, "abc");
        Check.yes("3 none", x.end(0));
        Check.tapeIsEmpty("3 none", x);
        x.put();
        Check.transcriptIs("3 none counts", x, "\3\n");
    }

    private static void endOfEmptyTape() {
        PeerLine x = new PeerLine();
        Check.yes("3 none of none", x.end(0));
        Check.no("3 one of none", x.end(1));
    }

    private static void endForgetsTheRest() {
        PeerLine x = new PeerLine();
        Check.tape(x, "abcdef");
        Check.yes("3 two of six", x.end(2));
        Check.no("3 the third does not come back", x.end(3));
        Check.no("3 all do not come back", x.end(6));
        x.feed(0x78797a00, 0, 0, 0, 0);
        Check.no("3 two and twenty", x.end(23));
        Check.yes("3 two and three", x.end(5));
        x.put();
        Check.transcriptIs("3 fed behind what counts", x, "\3abxyz\n");
    }

    private static void endRefusedChangesNothing() {
        PeerLine x = new PeerLine();
        Check.tape(x, "abcdef");
        x.end(7);
        x.end(-1);
        x.end(Integer.MIN_VALUE);
        Check.no("3 still not seven", x.end(7));
        Check.yes("3 still six", x.end(6));
        x.put();
        Check.transcriptIs("3 as before", x, "\3abcdef\n");
    }

    private static void endOfFullTape() {
        PeerLine x = fedTimes(51);
        x.end(1004);
        x.feed(0, 0, 0, 0, 0);
        Check.no("3 1025 of 1024", x.end(1025));
        Check.yes("3 1024 of 1024", x.end(1024));
        Check.yes("3 1023 of 1024", x.end(1023));
        Check.no("3 1024 of 1023", x.end(1024));
    }
}
