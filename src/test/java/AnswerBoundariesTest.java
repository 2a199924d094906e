/** The boundary cases of promise 8 (come) and of Terms on answers and the buffer, one sentence a method. */
public final class AnswerBoundariesTest {
    private static final int NONE = PeerLine.NONE;

    public static void main(String[] args) {
        noneToCome();
        untilItsTime();
        untilOneBelow();
        untilFarOut();
        untilBelowNow();
        noneChangesNothing();
        timeGoesOn();
        timeDoesNotGoBack();
        timeOfNowStays();
        timeIsFromTheLine();
        oneAtATime();
        onTranscriptAndInBuffer();
        emptyAnswerComes();
        orderOfTimes();
        orderOfOneTime();
        orderOfOneTimeFromTwoDelays();
        earlierOneAmong64();
        sixtyFourToCome();
        answer65IsLost();
        earlyAnswer65IsLost();
        lostAnswerChangesState();
        roomBehindOneThatCame();
        lostStaysLost();
        bufferOf1024();
        bufferOf1025();
        bufferLosesManyAtOnce();
        bufferLosesAcrossAnswers();
        fullBufferAndEmptyAnswer();
        bufferBehindTake();
        transcriptKeepsWhatWent();
        Check.done();
    }

    /** Answers the lines a, b, c at once with one byte, l after 1000 with another, e with none. */
    private static PeerLine peer() {
        PeerLine x = new PeerLine();
        Check.rule(x, 0, "a", "A", 0, 0);
        Check.rule(x, 0, "b", "B", 5, 0);
        Check.rule(x, 0, "c", "C", 5, 0);
        Check.rule(x, 0, "l", "L", 1000, 0);
        Check.rule(x, 0, "e", "", 3, 0);
        Check.rule(x, 0, "s", "S", 5, 1);
        x.spawn();
        return x;
    }

    private static PeerLine sentTo(String text) {
        PeerLine x = peer();
        Check.send(x, text);
        return x;
    }

    private static void noneToCome() {
        PeerLine x = peer();
        Check.same("8 none is to come", x.come(Long.MAX_VALUE), NONE);
        Check.same("8 none is to come yet", x.come(0), NONE);
        Check.same("8 time stays", x.pass(0), 0);
        Check.transcriptIs("8 nothing is told", x, "");
        Check.same("8 none is to come without a peer", new PeerLine().come(Long.MAX_VALUE), NONE);
    }

    private static void untilItsTime() {
        PeerLine x = sentTo("l\n");
        Check.same("8 its time is until", x.come(1000), 1000);
        Check.same("8 none is left", x.total(1), 0);
        PeerLine y = sentTo("a\n");
        Check.same("8 its time 0 is until", y.come(0), 0);
    }

    private static void untilOneBelow() {
        PeerLine x = sentTo("l\n");
        Check.same("8 its time is above until", x.come(999), NONE);
        PeerLine y = sentTo("a\n");
        Check.same("8 its time 0 is above until", y.come(-1), NONE);
    }

    private static void untilFarOut() {
        PeerLine x = sentTo("b\n");
        Check.same("8 the lowest until", x.come(Long.MIN_VALUE), NONE);
        Check.same("8 an until below all ints", x.come((-1L << 40) + 9), NONE);
        Check.same("8 an until above all ints", x.come(1L << 40), 5);
        PeerLine y = sentTo("l\n");
        Check.same("8 the highest until", y.come(Long.MAX_VALUE), 1000);
    }

    private static void untilBelowNow() {
        PeerLine x = sentTo("b\n");
        x.pass(100);
        Check.same("8 until is below its time", x.come(4), NONE);
        Check.same("8 until is its time, though below now", x.come(5), 100);
    }

    private static void noneChangesNothing() {
        PeerLine x = sentTo("a\nl\n");
        x.come(0);
        Check.same("8 not yet", x.come(999), NONE);
        Check.same("8 not yet again", x.come(999), NONE);
        Check.same("8 it is still to come", x.total(1), 1);
        Check.same("8 time stays", x.pass(0), 0);
        Check.bufferIs("8 the buffer stays", x, "A");
        Check.transcriptIs("8 the transcript stays", x, "\1a\nl\n\2A");
        Check.same("8 it comes then", x.come(1000), 1000);
    }

    private static void timeGoesOn() {
        PeerLine x = sentTo("b\n");
        x.pass(4);
        Check.same("8 one behind now", x.come(5), 5);
        Check.same("8 the time then", x.pass(0), 5);
    }

    private static void timeDoesNotGoBack() {
        PeerLine x = sentTo("b\n");
        x.pass(6);
        Check.same("8 one before now", x.come(6), 6);
        Check.same("8 the time then", x.pass(0), 6);
    }

    private static void timeOfNowStays() {
        PeerLine x = sentTo("b\n");
        x.pass(5);
        Check.same("8 its time is now", x.come(5), 5);
        Check.same("8 the time then", x.pass(0), 5);
    }

    private static void timeIsFromTheLine() {
        PeerLine x = peer();
        x.pass(1000000);
        Check.send(x, "b");
        x.pass(10);
        Check.send(x, "\n");
        x.pass(1);
        Check.same("8 not before the delay behind its newline", x.come(1000014), NONE);
        Check.same("8 the delay behind its newline", x.come(1000015), 1000015);
    }

    private static void oneAtATime() {
        PeerLine x = sentTo("a\na\na\n");
        Check.same("8 the first", x.come(9), 0);
        Check.same("8 two are to come", x.total(1), 2);
        Check.bufferIs("8 one came", x, "A");
        x.come(9);
        x.come(9);
        Check.same("8 none is left", x.come(9), NONE);
        Check.bufferIs("8 three came", x, "AAA");
    }

    private static void onTranscriptAndInBuffer() {
        PeerLine x = Made.answering("\u00ff\0\n\2");
        Check.send(x, "x\n");
        Check.bufferIs("8 nothing before it comes", x, "");
        Check.transcriptIs("8 nothing told before it comes", x, "\1x\n");
        x.come(0);
        Check.bufferIs("8 in the buffer", x, "\u00ff\0\n\2");
        Check.transcriptIs("8 on the transcript", x, "\1x\n\2\u00ff\0\n\2");
    }

    private static void emptyAnswerComes() {
        PeerLine x = sentTo("e\n");
        Check.same("8 one is to come", x.total(1), 1);
        Check.same("8 an empty one comes in its time", x.come(3), 3);
        Check.bufferIs("8 without a byte", x, "");
        Check.transcriptIs("8 it is received", x, "\1e\n\2");
    }

    private static void orderOfTimes() {
        PeerLine x = sentTo("l\nb\na\n");
        Check.same("Terms the earliest", x.come(5000), 0);
        Check.same("Terms the next", x.come(5000), 5);
        Check.same("Terms the latest", x.come(5000), 1000);
        Check.bufferIs("Terms in the order of their times", x, "ABL");
    }

    private static void orderOfOneTime() {
        PeerLine x = sentTo("c\nb\nb\nc\na\n");
        for (int i = 0; i < 5; i++) {
            x.come(5);
        }
        Check.bufferIs("Terms of one time as they were given", x, "ACBBC");
    }

    private static void orderOfOneTimeFromTwoDelays() {
        PeerLine x = sentTo("l\n");
        x.pass(995);
        Check.send(x, "b\n");
        x.pass(5);
        Check.send(x, "a\n");
        for (int i = 0; i < 3; i++) {
            Check.same("Terms all of one time", x.come(1000), 1000);
        }
        Check.bufferIs("Terms the first given comes first", x, "LBA");
    }

    private static void earlierOneAmong64() {
        PeerLine x = sentTo("l\n".repeat(63) + "a\n");
        Check.same("Terms 64 are to come", x.total(1), 64);
        Check.same("Terms the earlier one comes first", x.come(0), 0);
        Check.send(x, "b\n");
        Check.same("Terms so does the next", x.come(1000), 5);
        for (int i = 0; i < 63; i++) {
            Check.same("Terms the late ones", x.come(1000), 1000);
        }
        Check.bufferIs("Terms early and late ones", x, "AB" + "L".repeat(63));
    }

    private static void sixtyFourToCome() {
        PeerLine x = sentTo("b\n".repeat(63));
        Check.same("Terms 63 are to come", x.total(1), 63);
        Check.send(x, "c\n");
        Check.same("Terms 64 are to come", x.total(1), 64);
        for (int i = 0; i < 64; i++) {
            Check.same("Terms each of the 64 comes", x.come(5), 5);
        }
        Check.same("Terms then none is left", x.come(5), NONE);
        Check.bufferIs("Terms all 64 came", x, "B".repeat(63) + "C");
    }

    private static void answer65IsLost() {
        PeerLine x = sentTo("b\n".repeat(64) + "c\n");
        Check.same("Terms no 65th", x.total(1), 64);
        for (int i = 0; i < 64; i++) {
            x.come(5);
        }
        Check.same("Terms the 65th does not come", x.come(Long.MAX_VALUE), NONE);
        Check.bufferIs("Terms another one is lost", x, "B".repeat(64));
    }

    private static void earlyAnswer65IsLost() {
        PeerLine x = sentTo("l\n".repeat(64) + "a\n");
        Check.same("Terms an earlier one is lost as well", x.come(999), NONE);
        Check.same("Terms none of the 64 made way", x.total(1), 64);
        for (int i = 0; i < 64; i++) {
            Check.same("Terms the 64 come", x.come(1000), 1000);
        }
        Check.bufferIs("Terms the 64 late ones", x, "L".repeat(64));
    }

    private static void lostAnswerChangesState() {
        PeerLine x = sentTo("b\n".repeat(64));
        Check.send(x, "s\n");
        Check.same("Terms the answer is lost, the state is the next one", x.total(0), 1);
        Check.same("Terms 64 are to come", x.total(1), 64);
    }

    private static void roomBehindOneThatCame() {
        PeerLine x = sentTo("b\n".repeat(64));
        Check.same("Terms one comes", x.come(5), 5);
        Check.send(x, "a\n");
        Check.same("Terms there is room for one", x.total(1), 64);
        Check.send(x, "a\n");
        Check.same("Terms and for no more", x.total(1), 64);
        for (int i = 0; i < 64; i++) {
            x.come(5);
        }
        Check.bufferIs("Terms the one for which there was room", x, "B".repeat(64) + "A");
    }

    private static void lostStaysLost() {
        PeerLine x = sentTo("b\n".repeat(64) + "c\nc\n");
        x.come(5);
        x.come(5);
        Check.same("Terms a lost one does not come back", x.total(1), 62);
    }

    private static void bufferOf1024() {
        String text = "f" + "-".repeat(1022) + "l";
        PeerLine x = Made.withBuffer(text);
        Check.bufferIs("Terms a buffer of 1024", x, text);
        Check.same("Terms its last byte", x.bufferAt(1023), 'l');
    }

    /** A buffer of 1024 bytes on which another answer comes. */
    private static PeerLine fullBufferAnd(String text, String more) {
        PeerLine x = Made.withBuffer(text);
        Check.rule(x, x.total(0), "more", more, 0, x.total(0));
        Check.send(x, "more\n");
        Check.same("Terms more comes", x.come(0), 0);
        return x;
    }

    private static void bufferOf1025() {
        PeerLine x = fullBufferAnd("fg" + "-".repeat(1021) + "l", "m");
        Check.bufferIs("Terms the first byte goes", x, "g" + "-".repeat(1021) + "lm");
    }

    private static void bufferLosesManyAtOnce() {
        String text = "f".repeat(200) + "g" + "-".repeat(823);
        PeerLine x = fullBufferAnd(text, "m".repeat(199) + "n");
        Check.bufferIs("Terms the first 200 go", x, "g" + "-".repeat(823) + "m".repeat(199) + "n");
    }

    private static void bufferLosesAcrossAnswers() {
        PeerLine x = Made.answering("0123456789".repeat(20));
        Check.send(x, "a\n".repeat(11));
        for (int i = 0; i < 11; i++) {
            x.come(0);
            Check.same("Terms bytes in the buffer", x.total(2), Math.min(1024, 200 * (i + 1)));
        }
        Check.bufferIs("Terms the last 1024 bytes", x, "6789" + "0123456789".repeat(102));
    }

    private static void fullBufferAndEmptyAnswer() {
        String text = "f" + "-".repeat(1022) + "l";
        PeerLine x = fullBufferAnd(text, "");
        Check.bufferIs("Terms an empty answer drives nothing out", x, text);
    }

    private static void bufferBehindTake() {
        PeerLine x = Made.withBuffer("fgh" + "-".repeat(1021));
        Check.rule(x, x.total(0), "more", "m", 0, x.total(0));
        Check.yes("Terms one is taken", x.take(1));
        Check.send(x, "more\nmore\n");
        x.come(0);
        Check.bufferIs("Terms there is room for one", x, "gh" + "-".repeat(1021) + "m");
        x.come(0);
        Check.bufferIs("Terms and for no more", x, "h" + "-".repeat(1021) + "mm");
    }

    private static void transcriptKeepsWhatWent() {
        PeerLine x = fullBufferAnd("f" + "-".repeat(1023), "mn");
        int told = x.total(3);
        Check.same("Terms all 1026 bytes that came are told", told, 1026 + 7 + 6 + 6);
        Check.same("Terms the byte that went", x.toldAt(7), 'f');
        Check.same("Terms the last byte that came", x.toldAt(told - 1), 'n');
    }
}
