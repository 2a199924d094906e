/** The boundary cases of promises 10 to 13 (take, pass, total, bufferAt), one sentence a method. */
public final class AskingBoundariesTest {
    private static final int NONE = PeerLine.NONE;

    public static void main(String[] args) {
        takeAll();
        takeOneMore();
        takeNone();
        takeBelowZero();
        takeOfEmpty();
        takeFirstOnes();
        takeRefusedChangesNothing();
        takeOf1024();
        takeLeavesTheRest();
        passNearestBelow();
        passNearestAbove();
        passInside();
        passBeyondInts();
        passMovesNoAnswer();
        passDelays();
        passOftenAsCanBe();
        totalOutside();
        totalEach();
        totalOf0();
        totalOf1();
        totalOf2();
        totalOf3();
        totalOf4();
        totalOf5();
        askingChangesNothing();
        bufferAtEdges();
        bufferAtEmpty();
        bufferAtFull();
        bufferAtBehindTake();
        bufferAtHighBytes();
        Check.done();
    }

    private static void takeAll() {
        PeerLine x = Made.withBuffer("abc");
        Check.yes("10 all", x.take(3));
        Check.bufferIs("10 none is left", x, "");
    }

    private static void takeOneMore() {
        PeerLine x = Made.withBuffer("abc");
        Check.no("10 one more than all", x.take(4));
        Check.no("10 the highest", x.take(Integer.MAX_VALUE));
    }

    private static void takeNone() {
        PeerLine x = Made.withBuffer("abc");
        Check.yes("10 none", x.take(0));
        Check.bufferIs("10 all are left", x, "abc");
    }

    private static void takeBelowZero() {
        PeerLine x = Made.withBuffer("abc");
        Check.no("10 -1", x.take(-1));
        Check.no("10 the lowest", x.take(Integer.MIN_VALUE));
        Check.bufferIs("10 all are left", x, "abc");
    }

    private static void takeOfEmpty() {
        PeerLine x = new PeerLine();
        Check.yes("10 none of none", x.take(0));
        Check.no("10 one of none", x.take(1));
        Check.no("10 -1 of none", x.take(-1));
    }

    private static void takeFirstOnes() {
        PeerLine x = Made.withBuffer("abcdef");
        Check.yes("10 one", x.take(1));
        Check.bufferIs("10 the first went", x, "bcdef");
        Check.yes("10 two", x.take(2));
        Check.bufferIs("10 the first two went", x, "def");
        Check.no("10 not so many any more", x.take(4));
        Check.yes("10 but three", x.take(3));
    }

    private static void takeRefusedChangesNothing() {
        PeerLine x = Made.withBuffer("abc");
        x.take(4);
        x.take(1024);
        x.take(-1);
        x.take(Integer.MIN_VALUE);
        Check.bufferIs("10 as before", x, "abc");
        Check.yes("10 three are still there", x.take(3));
    }

    private static void takeOf1024() {
        PeerLine x = Made.withBuffer("a".repeat(1023) + "z");
        Check.no("10 1025 of 1024", x.take(1025));
        Check.yes("10 1023 of 1024", x.take(1023));
        Check.bufferIs("10 the last is left", x, "z");
        PeerLine y = Made.withBuffer("a".repeat(1024));
        Check.yes("10 1024 of 1024", y.take(1024));
        Check.bufferIs("10 none is left", y, "");
    }

    private static void takeLeavesTheRest() {
        PeerLine x = Made.withBuffer("abc");
        int told = x.total(3);
        Check.tape(x, "tape");
        x.take(2);
        Check.same("10 the transcript stays", x.total(3), told);
        Check.yes("10 the tape stays", x.end(4));
        Check.same("10 the state stays", x.total(0), 1);
    }

    private static void passNearestBelow() {
        PeerLine x = new PeerLine();
        x.pass(7);
        Check.same("11 -1", x.pass(-1), 7);
        Check.same("11 -1000000", x.pass(-1000000), 7);
        Check.same("11 the lowest", x.pass(Long.MIN_VALUE), 7);
        Check.same("11 none", x.pass(0), 7);
    }

    private static void passNearestAbove() {
        PeerLine x = new PeerLine();
        Check.same("11 1000001", x.pass(1000001), 1000000);
        Check.same("11 the highest", x.pass(Long.MAX_VALUE), 2000000);
    }

    private static void passInside() {
        PeerLine x = new PeerLine();
        Check.same("11 none", x.pass(0), 0);
        Check.same("11 one", x.pass(1), 1);
        Check.same("11 999999", x.pass(999999), 1000000);
        Check.same("11 1000000", x.pass(1000000), 2000000);
    }

    private static void passBeyondInts() {
        PeerLine x = new PeerLine();
        Check.same("11 2^32 and 5", x.pass((1L << 32) + 5), 1000000);
        Check.same("11 2^31", x.pass(1L << 31), 2000000);
        Check.same("11 -2^32 and 5", x.pass((-1L << 32) + 5), 2000000);
        Check.same("11 -2^31 less 1", x.pass((-1L << 31) - 1), 2000000);
    }

    private static void passMovesNoAnswer() {
        PeerLine x = new PeerLine();
        Check.rule(x, 0, "", "a", 5, 0);
        x.spawn();
        x.pass(1000000);
        Check.same("11 it is still to come", x.total(1), 1);
        Check.bufferIs("11 nothing came", x, "");
        Check.transcriptIs("11 nothing is told", x, "");
    }

    private static void passDelays() {
        PeerLine x = new PeerLine();
        Check.rule(x, 0, "", "a", 5, 0);
        x.pass(1000001);
        x.spawn();
        Check.same("11 the answer's time is from then on", x.come(1000004), NONE);
        Check.same("11 the answer's time", x.come(1000005), 1000005);
    }

    private static void passOftenAsCanBe() {
        PeerLine x = new PeerLine();
        for (long i = 1; i <= 512; i++) {
            Check.same("11 pass " + i, x.pass(1000000), i * 1000000);
        }
    }

    private static void totalOutside() {
        PeerLine x = Made.withBuffer("abc");
        int[] outside = {-1, 6, 7, 256, Integer.MIN_VALUE, Integer.MAX_VALUE};
        for (int what : outside) {
            Check.same("12 total(" + what + ")", x.total(what), NONE);
        }
    }

    private static void totalEach() {
        PeerLine x = new PeerLine();
        Check.rule(x, 0, "a", "abc", 0, 9);
        Check.rule(x, 9, "b", "de", 9, 9);
        x.spawn();
        Check.send(x, "a\nb\nb\nrest!");
        x.come(0);
        int[] want = {9, 2, 3, 16, 2, 5};
        for (int what = 0; what < want.length; what++) {
            Check.same("12 total(" + what + ")", x.total(what), want[what]);
        }
    }

    private static void totalOf0() {
        PeerLine x = new PeerLine();
        Check.rule(x, 0, "a", "", 0, 31);
        x.spawn();
        Check.same("12 the lowest state", x.total(0), 0);
        Check.send(x, "a\n");
        Check.same("12 the highest state", x.total(0), 31);
    }

    private static void totalOf1() {
        PeerLine x = Made.answering("a");
        Check.same("12 no answer to come", x.total(1), 0);
        Check.send(x, "a\n".repeat(64));
        Check.same("12 the most answers to come", x.total(1), 64);
        x.come(0);
        Check.same("12 one less", x.total(1), 63);
    }

    private static void totalOf2() {
        Check.same("12 no byte in the buffer", Made.withBuffer("").total(2), 0);
        Check.same("12 one byte in the buffer", Made.withBuffer("a").total(2), 1);
        Check.same("12 the most bytes in the buffer", Made.withBuffer("a".repeat(1024)).total(2), 1024);
    }

    private static void totalOf3() {
        PeerLine x = Made.withRoomOnTranscript(2);
        Check.same("12 two bytes less than the most", x.total(3), 32766);
        x.put();
        Check.same("12 the most bytes on the transcript", x.total(3), 32768);
    }

    private static void totalOf4() {
        PeerLine x = new PeerLine();
        for (int i = 0; i < 64; i++) {
            Check.same("12 rules", x.total(4), i);
            Check.rule(x, 0, "", "", 0, 0);
        }
        Check.same("12 the most rules", x.total(4), 64);
    }

    private static void totalOf5() {
        PeerLine x = new PeerLine();
        x.spawn();
        Check.send(x, "a");
        Check.same("12 a byte of the line", x.total(5), 1);
        Check.send(x, "b".repeat(1023));
        Check.same("12 the most bytes of the line", x.total(5), 1024);
        Check.send(x, "\n");
        Check.same("12 no byte of the next", x.total(5), 0);
    }

    private static void askingChangesNothing() {
        PeerLine x = Made.withBuffer("abc");
        Check.tape(x, "tape");
        int[] numbers = {Integer.MIN_VALUE, -1, 0, 2, 3, 6, Integer.MAX_VALUE};
        for (int n : numbers) {
            x.total(n);
            x.bufferAt(n);
            x.toldAt(n);
        }
        Check.bufferIs("13 the buffer stays", x, "abc");
        Check.yes("13 the tape stays", x.end(4));
        x.put();
        Check.transcriptIs("14 the transcript stays", x, "\1\2abc\3tape\n");
    }

    private static void bufferAtEdges() {
        PeerLine x = Made.withBuffer("abc");
        Check.same("13 -1", x.bufferAt(-1), NONE);
        Check.same("13 the lowest", x.bufferAt(Integer.MIN_VALUE), NONE);
        Check.same("13 the first", x.bufferAt(0), 'a');
        Check.same("13 the last", x.bufferAt(2), 'c');
        Check.same("13 behind the last", x.bufferAt(3), NONE);
        Check.same("13 the highest", x.bufferAt(Integer.MAX_VALUE), NONE);
    }

    private static void bufferAtEmpty() {
        PeerLine x = new PeerLine();
        Check.same("13 the first of none", x.bufferAt(0), NONE);
        Check.same("13 -1 of none", x.bufferAt(-1), NONE);
    }

    private static void bufferAtFull() {
        PeerLine x = Made.withBuffer("a" + "-".repeat(1022) + "z");
        Check.same("13 the first of 1024", x.bufferAt(0), 'a');
        Check.same("13 the last of 1024", x.bufferAt(1023), 'z');
        Check.same("13 behind 1024", x.bufferAt(1024), NONE);
        Check.same("13 -1 of 1024", x.bufferAt(-1), NONE);
    }

    private static void bufferAtBehindTake() {
        PeerLine x = Made.withBuffer("abc");
        x.take(2);
        Check.same("13 the first is another", x.bufferAt(0), 'c');
        Check.same("13 behind the last", x.bufferAt(1), NONE);
        Check.same("13 where the last was", x.bufferAt(2), NONE);
    }

    private static void bufferAtHighBytes() {
        Check.bufferIs("13 bytes are 0 to 255", Made.withBuffer("\177\u0080\u00ff\0"), "\177\u0080\u00ff\0");
    }
}
