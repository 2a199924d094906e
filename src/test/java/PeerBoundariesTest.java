/** The boundary cases of promises 5 (spawn) and 6 (send), one sentence a method. */
public final class PeerBoundariesTest {
    private static final int NONE = PeerLine.NONE;

    public static void main(String[] args) {
        spawnBeginsInState0();
        spawnForgetsTheLine();
        spawnForgetsALineOf1024();
        spawnForgetsWhatIsToCome();
        spawnHasRoomFor64Again();
        spawnForgetsWhatCame();
        spawnGivesAnEmptyLine();
        spawnGivesOneEmptyLine();
        spawnGivesNoByte();
        spawnAnswersFromNow();
        spawnKeepsTheRest();
        spawnIsNotTold();
        spawnTwice();
        sendWithoutPeer();
        sendWithoutPeerIsForgotten();
        sendEmptiesTape();
        sendNothing();
        sendNewlineAlone();
        sendWithoutNewline();
        sendLineInParts();
        sendManyLines();
        sendLineWithoutNewline();
        sendOnlyNewlineEnds();
        sendLineOf1023();
        sendLineOf1024();
        sendLineOf1025();
        sendBehindALongLine();
        sendLongLineIsToldWhole();
        sendFullTape();
        sendAllNewlines();
        Check.done();
    }

    private static void spawnBeginsInState0() {
        PeerLine x = new PeerLine();
        Check.rule(x, 0, "a", "", 0, 31);
        x.spawn();
        Check.send(x, "a\n");
        Check.same("5 state 31", x.total(0), 31);
        x.spawn();
        Check.same("5 state 0", x.total(0), 0);
        Check.send(x, "a\n");
        Check.same("5 the rules of state 0", x.total(0), 31);
    }

    private static void spawnForgetsTheLine() {
        PeerLine x = new PeerLine();
        Check.rule(x, 0, "ab", "no", 0, 1);
        Check.rule(x, 0, "b", "yes", 0, 2);
        x.spawn();
        Check.send(x, "a");
        x.spawn();
        Check.same("5 no byte of a line", x.total(5), 0);
        Check.send(x, "b\n");
        Check.same("5 the line begins anew", x.total(0), 2);
    }

    private static void spawnForgetsALineOf1024() {
        PeerLine x = new PeerLine();
        Check.rule(x, 0, "b", "yes", 0, 2);
        x.spawn();
        Check.send(x, "a".repeat(1024));
        Check.same("5 a full line", x.total(5), 1024);
        x.spawn();
        Check.same("5 a full line is forgotten", x.total(5), 0);
        Check.send(x, "b\n");
        Check.same("5 there is room again", x.total(0), 2);
    }

    private static void spawnForgetsWhatIsToCome() {
        PeerLine x = new PeerLine();
        Check.rule(x, 0, "a", "old", 5, 0);
        x.spawn();
        Check.send(x, "a\na\n");
        Check.same("5 two are to come", x.total(1), 2);
        x.spawn();
        Check.same("5 none is to come", x.total(1), 0);
        Check.same("5 none comes", x.come(Long.MAX_VALUE), NONE);
        Check.same("5 the time of those is not reached", x.pass(0), 0);
    }

    private static void spawnHasRoomFor64Again() {
        PeerLine x = new PeerLine();
        Check.rule(x, 0, "a", "", 5, 0);
        x.spawn();
        Check.send(x, "a\n".repeat(65));
        Check.same("5 64 are to come", x.total(1), 64);
        x.spawn();
        Check.send(x, "a\n".repeat(63));
        Check.same("5 63 are to come", x.total(1), 63);
        Check.send(x, "a\na\n");
        Check.same("5 64 are to come again", x.total(1), 64);
    }

    private static void spawnForgetsWhatCame() {
        PeerLine x = Made.answering("abc");
        Check.send(x, "go\n");
        x.come(0);
        Check.same("5 three bytes came", x.total(2), 3);
        x.spawn();
        Check.bufferIs("5 what came is forgotten", x, "");
        Check.no("5 nothing to take", x.take(1));
        Check.same("5 nothing that fits", Check.fit(x, "a"), NONE);
        Check.send(x, "go\n");
        x.come(0);
        Check.bufferIs("5 what comes then", x, "abc");
    }

    private static void spawnGivesAnEmptyLine() {
        PeerLine x = new PeerLine();
        Check.rule(x, 0, "?*", "no", 0, 1);
        Check.rule(x, 0, "", "yes", 0, 2);
        x.spawn();
        Check.same("5 the empty line's state", x.total(0), 2);
        Check.same("5 the empty line's answer", x.come(0), 0);
        Check.bufferIs("5 the empty line", x, "yes");
        PeerLine y = new PeerLine();
        Check.rule(y, 0, "**", "yes", 0, 3);
        y.spawn();
        Check.same("5 stars fit an empty line", y.total(0), 3);
    }

    private static void spawnGivesOneEmptyLine() {
        PeerLine x = new PeerLine();
        Check.rule(x, 0, "", "one", 0, 1);
        Check.rule(x, 1, "", "two", 0, 2);
        x.spawn();
        Check.same("5 one empty line", x.total(0), 1);
        Check.same("5 one answer", x.total(1), 1);
    }

    private static void spawnGivesNoByte() {
        PeerLine x = new PeerLine();
        Check.rule(x, 0, "?", "no", 0, 1);
        Check.rule(x, 0, "\n", "no", 0, 2);
        Check.rule(x, 31, "", "no", 0, 3);
        x.spawn();
        Check.same("5 no rule fits", x.total(0), 0);
        Check.same("5 no answer", x.total(1), 0);
        Check.yes("5 a peer all the same", x.send());
    }

    private static void spawnAnswersFromNow() {
        PeerLine x = new PeerLine();
        Check.rule(x, 0, "", "hi", 1000, 0);
        x.pass(500);
        x.spawn();
        Check.same("5 not before now and the delay", x.come(1499), NONE);
        Check.same("5 now and the delay", x.come(1500), 1500);
    }

    private static void spawnKeepsTheRest() {
        PeerLine x = new PeerLine();
        Check.rule(x, 0, "a", "b", 7, 1);
        x.spawn();
        Check.send(x, "a\n");
        x.come(7);
        Check.tape(x, "tape");
        x.spawn();
        Check.same("5 time stays", x.pass(0), 7);
        Check.same("5 rules stay", x.total(4), 1);
        Check.no("5 the tape is no longer", x.end(5));
        Check.yes("5 the tape is no shorter", x.end(4));
        x.put();
        Check.transcriptIs("5 transcript and tape stay", x, "\1a\n\2b\3tape\n");
    }

    private static void spawnIsNotTold() {
        PeerLine x = new PeerLine();
        Check.rule(x, 0, "", "hi", 0, 1);
        x.spawn();
        Check.transcriptIs("5 the empty line is not sent", x, "");
        x.come(0);
        Check.transcriptIs("5 its answer is received", x, "\2hi");
    }

    private static void spawnTwice() {
        PeerLine x = new PeerLine();
        Check.rule(x, 0, "", "hi", 4, 1);
        x.spawn();
        x.pass(1);
        x.spawn();
        Check.same("5 one answer to come", x.total(1), 1);
        Check.same("5 the first one is forgotten", x.come(4), NONE);
        Check.same("5 the second one comes", x.come(5), 5);
        Check.same("5 no other", x.come(Long.MAX_VALUE), NONE);
    }

    private static void sendWithoutPeer() {
        PeerLine x = new PeerLine();
        Check.no("6 no peer", Check.send(x, "a\nb"));
        Check.tapeIsEmpty("6 no peer", x);
        Check.transcriptIs("6 nothing is sent", x, "");
        x.put();
        Check.transcriptIs("6 the tape is empty, too", x, "\3\n");
    }

    private static void sendWithoutPeerIsForgotten() {
        PeerLine x = new PeerLine();
        Check.rule(x, 0, "a", "A", 0, 1);
        Check.rule(x, 0, "bc", "B", 0, 2);
        Check.rule(x, 0, "c", "C", 0, 3);
        Check.send(x, "a\nb");
        Check.same("6 no state", x.total(0), 0);
        Check.same("6 no answer", x.total(1), 0);
        Check.same("6 no line", x.total(5), 0);
        x.spawn();
        Check.same("6 no line for the peer that begins", x.total(5), 0);
        Check.yes("6 now there is a peer", Check.send(x, "c\n"));
        Check.same("6 it gets what is sent now", x.total(0), 3);
        Check.transcriptIs("6 so does the transcript", x, "\1c\n");
    }

    private static void sendEmptiesTape() {
        PeerLine x = new PeerLine();
        x.spawn();
        Check.yes("6 sent", Check.send(x, "abc"));
        Check.tapeIsEmpty("6 sent", x);
        x.send();
        Check.transcriptIs("6 nothing is sent twice", x, "\1abc\1");
    }

    private static void sendNothing() {
        PeerLine x = new PeerLine();
        x.spawn();
        Check.rule(x, 0, "", "no", 0, 1);
        Check.yes("6 an empty tape is sent", x.send());
        Check.same("6 it ends no line", x.total(0), 0);
        Check.same("6 no answer", x.total(1), 0);
        Check.transcriptIs("6 a thing without bytes", x, "\1");
    }

    private static void sendNewlineAlone() {
        PeerLine x = new PeerLine();
        x.spawn();
        Check.rule(x, 0, "", "yes", 0, 1);
        Check.send(x, "\n");
        Check.same("6 an empty line", x.total(0), 1);
        Check.same("6 no byte behind it", x.total(5), 0);
        Check.transcriptIs("6 a newline is sent", x, "\1\n");
    }

    private static void sendWithoutNewline() {
        PeerLine x = new PeerLine();
        Check.rule(x, 0, "a", "no", 0, 1);
        x.spawn();
        Check.send(x, "a");
        Check.same("6 no line as yet", x.total(0), 0);
        Check.same("6 a byte of it", x.total(5), 1);
        Check.send(x, "\n");
        Check.same("6 the line ends", x.total(0), 1);
        Check.same("6 no byte of the next", x.total(5), 0);
    }

    private static void sendLineInParts() {
        PeerLine x = new PeerLine();
        Check.rule(x, 0, "abcd", "yes", 0, 1);
        x.spawn();
        Check.send(x, "a");
        Check.send(x, "bc");
        x.send();
        Check.put(x, "x\n");
        Check.same("6 three bytes of the line", x.total(5), 3);
        Check.send(x, "d\ne");
        Check.same("6 the parts are one line", x.total(0), 1);
        Check.same("6 a byte of the next", x.total(5), 1);
    }

    private static void sendManyLines() {
        PeerLine x = new PeerLine();
        Check.rule(x, 0, "a", "1", 0, 1);
        Check.rule(x, 1, "", "2", 0, 2);
        Check.rule(x, 2, "b", "3", 0, 3);
        x.spawn();
        Check.send(x, "a\n\nx\nb\nyz");
        Check.same("6 each newline ends a line", x.total(0), 3);
        Check.same("6 three answers", x.total(1), 3);
        Check.same("6 two bytes of the next line", x.total(5), 2);
    }

    private static void sendLineWithoutNewline() {
        PeerLine x = new PeerLine();
        Check.rule(x, 0, "a?", "no", 0, 1);
        Check.rule(x, 0, "*\n", "no", 0, 2);
        Check.rule(x, 0, "a", "yes", 0, 3);
        x.spawn();
        Check.send(x, "a\n");
        Check.same("6 the newline is not of the line", x.total(0), 3);
    }

    private static void sendOnlyNewlineEnds() {
        PeerLine x = new PeerLine();
        Check.rule(x, 0, "*", "no", 0, 0);
        x.spawn();
        x.come(0);
        Check.send(x, "\r\0\t\13\14\u008a\u0085\t\13");
        Check.same("6 no line", x.total(1), 0);
        Check.same("6 all of them are of the line", x.total(5), 9);
    }

    private static PeerLine forLongLines() {
        PeerLine x = new PeerLine();
        Check.rule(x, 0, "a*b", "short", 0, 1);
        Check.rule(x, 0, "a*c", "long", 0, 2);
        Check.rule(x, 0, "?*", "else", 0, 3);
        x.spawn();
        return x;
    }

    private static void sendLineOf1023() {
        PeerLine x = forLongLines();
        Check.send(x, "a" + "-".repeat(1021) + "b");
        Check.same("6 1023 bytes", x.total(5), 1023);
        Check.send(x, "\n");
        Check.same("6 a line of 1023", x.total(0), 1);
    }

    private static void sendLineOf1024() {
        PeerLine x = forLongLines();
        Check.send(x, "a" + "-".repeat(1022));
        Check.send(x, "b");
        Check.same("6 1024 bytes", x.total(5), 1024);
        Check.send(x, "\n");
        Check.same("6 a line of 1024", x.total(0), 1);
    }

    private static void sendLineOf1025() {
        PeerLine x = forLongLines();
        Check.send(x, "a" + "-".repeat(1022) + "b");
        Check.send(x, "c");
        Check.same("6 the first 1024 bytes", x.total(5), 1024);
        Check.send(x, "\n");
        Check.same("6 byte 1025 is not of the line", x.total(0), 1);
        PeerLine y = forLongLines();
        Check.send(y, "a" + "-".repeat(1023));
        Check.send(y, "b\n");
        Check.same("6 nor is it the last of the line", y.total(0), 3);
    }

    private static void sendBehindALongLine() {
        PeerLine x = new PeerLine();
        Check.rule(x, 0, "a", "yes", 0, 1);
        x.spawn();
        Check.send(x, "-".repeat(1024));
        Check.send(x, "a\na\n");
        Check.same("6 what is beyond is not of the next line", x.total(0), 1);
        Check.send(x, "-".repeat(1024));
        Check.send(x, "more\nrest");
        Check.same("6 the next line begins behind the newline", x.total(5), 4);
    }

    private static void sendLongLineIsToldWhole() {
        PeerLine x = new PeerLine();
        x.spawn();
        Check.send(x, "-".repeat(1023) + "y");
        Check.send(x, "z\n");
        Check.same("6 all of it is on the transcript", x.total(3), 1028);
        Check.same("6 its byte 1024", x.toldAt(1024), 'y');
        Check.same("6 the next thing", x.toldAt(1025), 1);
        Check.same("6 its byte 1025", x.toldAt(1026), 'z');
        Check.same("6 its newline", x.toldAt(1027), 10);
    }

    private static void sendFullTape() {
        PeerLine x = new PeerLine();
        Check.rule(x, 0, "a*z", "yes", 0, 1);
        x.spawn();
        Check.yes("6 a tape of 1024", Check.send(x, "a" + "-".repeat(1021) + "z\n"));
        Check.same("6 its line", x.total(0), 1);
        Check.same("6 it is on the transcript", x.total(3), 1025);
        Check.same("6 its last byte", x.toldAt(1024), 10);
    }

    private static void sendAllNewlines() {
        PeerLine x = new PeerLine();
        for (int state = 0; state < 31; state++) {
            Check.rule(x, state, "", "", 0, state + 1);
        }
        x.spawn();
        Check.send(x, "\n".repeat(29));
        Check.same("6 29 empty lines and the one of spawn", x.total(0), 30);
        Check.send(x, "\n".repeat(1024 / 2));
        Check.same("6 no state behind the last", x.total(0), 31);
        Check.same("6 31 answers", x.total(1), 31);
    }
}
