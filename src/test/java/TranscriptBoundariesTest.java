/** The boundary cases of promises 7 (put) and 14 (toldAt) and of THE TRANSCRIPT, one sentence a method. */
public final class TranscriptBoundariesTest {
    private static final int NONE = PeerLine.NONE;
    private static final int LIMIT = Made.TRANSCRIPT_LIMIT;

    public static void main(String[] args) {
        kindsOfThings();
        putNewline();
        putNothing();
        putEmptiesTape();
        putGoesNowhereElse();
        putWithoutPeer();
        putFullTape();
        putUpTo32768();
        putAbove32768();
        putNothingUpTo32768();
        putNothingAbove32768();
        sentUpTo32768();
        sentAbove32768();
        sentNothingUpTo32768();
        sentNothingAbove32768();
        receivedUpTo32768();
        receivedAbove32768();
        receivedNothingUpTo32768();
        receivedNothingAbove32768();
        shorterOneBehindOneLeftOut();
        leftOutWhole();
        leftOutPutEmptiesTape();
        leftOutSentIsGot();
        leftOutReceivedCame();
        fullTranscriptGoesOn();
        toldAtEdges();
        toldAtFull();
        toldAtHighBytes();
        Check.done();
    }

    private static void kindsOfThings() {
        PeerLine x = Made.answering("b");
        Check.send(x, "a\n");
        x.come(0);
        Check.put(x, "c");
        Check.transcriptIs("Terms 1 sent, 2 received, 3 put out", x, "\1a\n\2b\3c\n");
    }

    private static void putNewline() {
        PeerLine x = new PeerLine();
        Check.put(x, "a\n");
        Check.put(x, "\n");
        Check.transcriptIs("Terms a newline behind each thing put out", x, "\3a\n\n\3\n\n");
    }

    private static void putNothing() {
        PeerLine x = new PeerLine();
        x.put();
        Check.transcriptIs("7 an empty tape", x, "\3\n");
        x.put();
        Check.transcriptIs("7 an empty tape again", x, "\3\n\3\n");
    }

    private static void putEmptiesTape() {
        PeerLine x = new PeerLine();
        Check.put(x, "abc");
        Check.tapeIsEmpty("7 put out", x);
        x.put();
        Check.transcriptIs("7 nothing is put out twice", x, "\3abc\n\3\n");
    }

    private static void putGoesNowhereElse() {
        PeerLine x = new PeerLine();
        Check.rule(x, 0, "?*", "no", 0, 1);
        x.spawn();
        Check.send(x, "a");
        Check.put(x, "b\n");
        Check.same("7 no state", x.total(0), 0);
        Check.same("7 no answer", x.total(1), 0);
        Check.same("7 no buffer", x.total(2), 0);
        Check.same("7 no line", x.total(5), 1);
        Check.same("7 no time", x.pass(0), 0);
    }

    private static void putWithoutPeer() {
        PeerLine x = new PeerLine();
        Check.put(x, "a");
        Check.transcriptIs("7 no peer is asked for", x, "\3a\n");
        Check.no("7 nor made", x.send());
    }

    private static void putFullTape() {
        PeerLine x = new PeerLine();
        Check.put(x, "a".repeat(1023) + "z");
        Check.same("7 a tape of 1024", x.total(3), 1026);
        Check.same("7 its last byte", x.toldAt(1024), 'z');
        Check.same("7 its newline", x.toldAt(1025), 10);
    }

    /** What stands behind the last thing that had room: a kind, the bytes, and nothing more. */
    private static void endsWith(String what, PeerLine x, String thing) {
        byte[] all = Check.bytes(thing);
        Check.same(what + ": bytes on the transcript", x.total(3), LIMIT);
        for (int i = 0; i < all.length; i++) {
            Check.same(what + ": byte " + i, x.toldAt(LIMIT - all.length + i), all[i] & 255);
        }
        Check.same(what + ": behind it", x.toldAt(LIMIT), NONE);
    }

    /** The transcript is as it was made: the put that Made ends it with is the last thing. */
    private static void isLeftAs(String what, PeerLine x, int room) {
        Check.same(what + ": bytes on the transcript", x.total(3), LIMIT - room);
        Check.same(what + ": its last byte", x.toldAt(LIMIT - room - 1), 10);
        Check.same(what + ": behind it", x.toldAt(LIMIT - room), NONE);
    }

    private static void putUpTo32768() {
        PeerLine x = Made.withRoomOnTranscript(5);
        Check.put(x, "abc");
        endsWith("Terms put out up to 32768", x, "\3abc\n");
    }

    private static void putAbove32768() {
        PeerLine x = Made.withRoomOnTranscript(5);
        Check.put(x, "abcd");
        isLeftAs("Terms put out with one byte too many", x, 5);
    }

    private static void putNothingUpTo32768() {
        PeerLine x = Made.withRoomOnTranscript(2);
        x.put();
        endsWith("Terms an empty tape put out up to 32768", x, "\3\n");
    }

    private static void putNothingAbove32768() {
        PeerLine x = Made.withRoomOnTranscript(1);
        x.put();
        isLeftAs("Terms an empty tape put out with one byte too many", x, 1);
    }

    private static void sentUpTo32768() {
        PeerLine x = Made.withRoomOnTranscript(4);
        Check.yes("Terms sent", Check.send(x, "abc"));
        endsWith("Terms sent up to 32768", x, "\1abc");
    }

    private static void sentAbove32768() {
        PeerLine x = Made.withRoomOnTranscript(4);
        Check.yes("Terms sent", Check.send(x, "abcd"));
        isLeftAs("Terms sent with one byte too many", x, 4);
    }

    private static void sentNothingUpTo32768() {
        PeerLine x = Made.withRoomOnTranscript(1);
        Check.yes("Terms sent", x.send());
        endsWith("Terms an empty tape sent up to 32768", x, "\1");
    }

    private static void sentNothingAbove32768() {
        PeerLine x = Made.withRoomOnTranscript(0);
        Check.yes("Terms sent", x.send());
        isLeftAs("Terms an empty tape sent on a full transcript", x, 0);
    }

    /** So many bytes are left on the transcript when the answer comes. */
    private static PeerLine receivedWith(int room, String answer) {
        PeerLine x = Made.withRoomOnTranscript(room + 3);
        Check.rule(x, 0, "y", answer, 6, 1);
        Check.send(x, "y\n");
        Check.same("Terms room for the answer", LIMIT - x.total(3), room);
        Check.same("Terms it comes", x.come(6), 6);
        return x;
    }

    private static void receivedUpTo32768() {
        PeerLine x = receivedWith(4, "abc");
        endsWith("Terms received up to 32768", x, "\2abc");
    }

    private static void receivedAbove32768() {
        PeerLine x = receivedWith(4, "abcd");
        isLeftAs("Terms received with one byte too many", x, 4);
    }

    private static void receivedNothingUpTo32768() {
        PeerLine x = receivedWith(1, "");
        endsWith("Terms an empty answer received up to 32768", x, "\2");
    }

    private static void receivedNothingAbove32768() {
        PeerLine x = receivedWith(0, "");
        isLeftAs("Terms an empty answer received on a full transcript", x, 0);
    }

    private static void shorterOneBehindOneLeftOut() {
        PeerLine x = Made.withRoomOnTranscript(6);
        Check.put(x, "abcde");
        Check.send(x, "abcdef");
        isLeftAs("Terms both are left out", x, 6);
        Check.put(x, "g");
        Check.same("Terms a shorter one has room", x.total(3), LIMIT - 3);
        Check.send(x, "hi");
        endsWith("Terms so has another", x, "\3g\n\1hi");
    }

    private static void leftOutWhole() {
        PeerLine x = Made.withRoomOnTranscript(100);
        Check.put(x, "a".repeat(1024));
        isLeftAs("Terms no part of a thing put out", x, 100);
        Check.send(x, "b".repeat(1024));
        isLeftAs("Terms no part of a thing sent", x, 100);
        Check.send(x, "\nx\n" + "c".repeat(96));
        Check.same("Terms a thing of 100 bytes", x.total(3), LIMIT);
        x.come(0);
        endsWith("Terms no part of a thing received", x, "\1\nx\n" + "c".repeat(96));
    }

    private static void leftOutPutEmptiesTape() {
        PeerLine x = Made.withRoomOnTranscript(5);
        Check.put(x, "abcd");
        Check.tapeIsEmpty("7 left out", x);
        x.put();
        Check.same("7 what was left out does not come back", x.total(3), LIMIT - 3);
        Check.same("7 the empty thing", x.toldAt(LIMIT - 4), 10);
    }

    private static void leftOutSentIsGot() {
        PeerLine x = Made.withRoomOnTranscript(2);
        Check.yes("6 sent all the same", Check.send(x, "x\nabc"));
        Check.tapeIsEmpty("6 left out", x);
        isLeftAs("6 left out", x, 2);
        Check.same("6 the peer got the line", x.total(1), 1);
        Check.same("6 and the bytes behind it", x.total(5), 3);
    }

    private static void leftOutReceivedCame() {
        PeerLine x = receivedWith(4, "abcd");
        Check.bufferIs("8 left out, but in the buffer", x, "abcd");
        Check.same("8 none is to come", x.total(1), 0);
        Check.same("8 time went on", x.pass(0), 6);
        Check.same("8 the state is the next one", x.total(0), 1);
    }

    private static void fullTranscriptGoesOn() {
        PeerLine x = Made.withRoomOnTranscript(0);
        Check.rule(x, 0, "y", "abc", 2, 0);
        Check.yes("6 sent", Check.send(x, "y\nz"));
        Check.same("8 it comes", x.come(2), 2);
        Check.put(x, "out");
        isLeftAs("Terms a full transcript", x, 0);
        Check.same("9 what came fits", Check.fit(x, "c"), 3);
        Check.same("12 bytes of the line", x.total(5), 1);
        x.spawn();
        isLeftAs("5 the transcript stays", x, 0);
    }

    private static void toldAtEdges() {
        PeerLine x = new PeerLine();
        Check.same("14 none of an empty one", x.toldAt(0), NONE);
        Check.put(x, "ab");
        Check.same("14 -1", x.toldAt(-1), NONE);
        Check.same("14 the lowest", x.toldAt(Integer.MIN_VALUE), NONE);
        Check.same("14 the first", x.toldAt(0), 3);
        Check.same("14 the last", x.toldAt(3), 10);
        Check.same("14 behind the last", x.toldAt(4), NONE);
        Check.same("14 far behind", x.toldAt(LIMIT), NONE);
        Check.same("14 the highest", x.toldAt(Integer.MAX_VALUE), NONE);
    }

    private static void toldAtFull() {
        PeerLine x = Made.withRoomOnTranscript(0);
        Check.same("14 the first of 32768", x.toldAt(0), 1);
        Check.same("14 the second of 32768", x.toldAt(1), 'x');
        Check.same("14 the last of 32768", x.toldAt(32767), 10);
        Check.same("14 behind 32768", x.toldAt(32768), NONE);
        Check.same("14 -1 of 32768", x.toldAt(-1), NONE);
        Check.same("14 -32768 of 32768", x.toldAt(-32768), NONE);
        Check.same("14 65536 of 32768", x.toldAt(65536), NONE);
    }

    private static void toldAtHighBytes() {
        PeerLine x = new PeerLine();
        Check.put(x, "\177\u0080\u00ff\0");
        Check.transcriptIs("14 bytes are 0 to 255", x, "\3\177\u0080\u00ff\0\n");
    }
}
