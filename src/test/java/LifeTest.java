/**
 * "What it is" and "All memory is the class's own": an object answers as due up to its 512th call,
 * whatever other objects are used for meanwhile.
 */
public final class LifeTest {
    private static final int NONE = PeerLine.NONE;
    private static final int CALLS = MadeUpRun.CALLS_OF_AN_OBJECT;
    private static final int CALLS_OF_A_PEER = 13;

    public static void main(String[] args) {
        tapeAtTheLastCall();
        peerAtTheLastCall();
        bufferAtTheLastCall();
        totalsAtTheLastCall();
        transcriptAtTheLastCall();
        everyCallAFeed();
        everyCallAPut();
        everyCallASpawn();
        everyCallASend();
        everyCallAFit();
        everyOtherCallAFit();
        longestTapesToTheLastCall();
        wholeLivesOneByOne();
        wholeLivesInTurn();
        sameCallsSameAnswers();
        Check.done();
    }

    /**
     * Behind so many calls: a rule that answers the line a at once, such an answer in the buffer
     * ("B", 0, "C"), another one to come, "xy" of a line; on the tape the same three bytes.
     */
    private static PeerLine livedFor(int calls) {
        PeerLine x = new PeerLine();
        Check.rule(x, 0, "a", "B\0C", 0, 3);
        Check.rule(x, 3, "a", "B\0C", 0, 3);
        x.spawn();
        Check.tape(x, "a\na\nxy");
        x.send();
        x.come(0);
        Check.tape(x, "B\0C");
        for (int call = CALLS_OF_A_PEER; call < calls; call++) {
            Check.same("time", x.pass(0), 0);
        }
        return x;
    }

    private static PeerLine withOneCallLeft() {
        return livedFor(CALLS - 1);
    }

    private static PeerLine withTwoCallsLeft() {
        return livedFor(CALLS - 2);
    }

    private static void tapeAtTheLastCall() {
        Check.yes("2 feed", withOneCallLeft().feed(1, 2, 3, 4, 5));
        Check.yes("3 end", withOneCallLeft().end(3));
        Check.no("3 end of too many", withOneCallLeft().end(4));
        Check.same("4 rule", withOneCallLeft().rule(0, 0, 0), 2);
        Check.same("4 no rule", withOneCallLeft().rule(32, 0, 0), NONE);
        PeerLine x = withTwoCallsLeft();
        x.feed(1, 2, 3, 4, 5);
        Check.yes("3 end behind feed", x.end(23));
    }

    private static void peerAtTheLastCall() {
        Check.yes("6 send", withOneCallLeft().send());
        Check.same("8 come", withOneCallLeft().come(0), 0);
        Check.same("8 come not yet", withOneCallLeft().come(-1), NONE);
        PeerLine x = withTwoCallsLeft();
        x.spawn();
        Check.same("5 the buffer behind spawn", x.total(2), 0);
        PeerLine y = withTwoCallsLeft();
        y.send();
        Check.same("6 the line behind send", y.total(5), 5);
        PeerLine z = withTwoCallsLeft();
        z.come(0);
        Check.same("8 the buffer behind come", z.bufferAt(5), 'C');
    }

    private static void bufferAtTheLastCall() {
        Check.same("9 fit", withOneCallLeft().fit(), 3);
        Check.yes("10 take", withOneCallLeft().take(3));
        Check.no("10 take too many", withOneCallLeft().take(4));
        Check.same("11 pass", withOneCallLeft().pass(1000001), 1000000);
        Check.same("13 bufferAt", withOneCallLeft().bufferAt(2), 'C');
        Check.same("13 bufferAt behind the last", withOneCallLeft().bufferAt(3), NONE);
        PeerLine x = withTwoCallsLeft();
        x.take(2);
        Check.same("10 the buffer behind take", x.bufferAt(0), 'C');
    }

    private static void totalsAtTheLastCall() {
        int[] want = {3, 1, 3, 11, 2, 2, NONE};
        for (int what = 0; what < want.length; what++) {
            Check.same("12 total(" + what + ")", withOneCallLeft().total(what), want[what]);
        }
    }

    private static void transcriptAtTheLastCall() {
        String want = "\1a\na\nxy\2B\0C";
        for (int i = 0; i < want.length(); i++) {
            Check.same("14 toldAt(" + i + ")", withOneCallLeft().toldAt(i), want.charAt(i));
        }
        Check.same("14 toldAt behind the last", withOneCallLeft().toldAt(want.length()), NONE);
        PeerLine x = withTwoCallsLeft();
        x.put();
        Check.same("7 the transcript behind put", x.total(3), 16);
    }

    private static void everyCallAFeed() {
        PeerLine x = new PeerLine();
        for (int call = 1; call <= CALLS; call++) {
            Check.same("2 feed as call " + call, x.feed(call, 0, 0, 0, 0) ? 1 : 0, call <= 51 ? 1 : 0);
        }
    }

    private static void everyCallAPut() {
        PeerLine x = new PeerLine();
        for (int call = 1; call < CALLS; call++) {
            x.put();
        }
        Check.same("7 511 things put out", x.total(3), 2 * 511);
    }

    private static void everyCallASpawn() {
        PeerLine x = new PeerLine();
        Check.rule(x, 0, "", "hi", 1, 1);
        for (int call = 4; call < CALLS; call++) {
            x.spawn();
        }
        Check.same("5 the answer of the last peer alone", x.total(1), 1);
    }

    private static void everyCallASend() {
        PeerLine x = new PeerLine();
        x.spawn();
        for (int call = 2; call < CALLS; call++) {
            Check.yes("6 send as call " + call, x.send());
        }
        Check.same("6 510 things sent", x.total(3), 510);
        PeerLine y = new PeerLine();
        for (int call = 1; call <= CALLS; call++) {
            Check.no("6 no peer at call " + call, y.send());
        }
    }

    private static void everyCallAFit() {
        PeerLine x = new PeerLine();
        for (int call = 1; call <= CALLS; call++) {
            Check.same("9 fit as call " + call, x.fit(), 0);
        }
    }

    private static void everyOtherCallAFit() {
        PeerLine x = livedFor(CALLS_OF_A_PEER);
        x.fit();
        for (int call = CALLS_OF_A_PEER + 2; call < CALLS; call += 2) {
            x.feed(0x2a2a2a2a, 0x2a2a2a2a, 0x2a2a2a2a, 0x2a2a2a2a, call % 4 == 1 ? 0x2a2a5b43 : 0x2a2a5b44);
            Check.same("9 fit as call " + (call + 1), x.fit(), call % 4 == 1 ? 3 : NONE);
        }
    }

    /** Nine tapes of 1024 bytes are as many as an object can get. */
    private static void longestTapesToTheLastCall() {
        PeerLine x = new PeerLine();
        Check.rule(x, 0, "z*z", "answer", 0, 0);
        x.spawn();
        String text = "z" + "-".repeat(1021) + "z\n";
        for (int i = 0; i < 8; i++) {
            Check.yes("6 a tape of 1024", Check.send(x, text));
            Check.same("8 its answer", x.come(0), 0);
        }
        Check.same("12 bytes on the transcript", x.total(3), 8 * (1025 + 7));
        Check.same("9 a pattern of 1024", Check.fit(x, "*".repeat(1018) + "answer"), 6);
    }

    private static void wholeLivesOneByOne() {
        for (int number = 0; number < 400 && !Check.anyWrong(); number++) {
            MadeUpRun run = new MadeUpRun(100000 + number);
            run.begin();
            while (run.calls() < CALLS) {
                run.goOn();
            }
            Check.same("calls of a whole life", run.calls(), CALLS);
        }
    }

    private static void wholeLivesInTurn() {
        for (int number = 0; number < 200 && !Check.anyWrong(); number++) {
            MadeUpRun one = new MadeUpRun(200000 + number);
            MadeUpRun other = new MadeUpRun(300000 + number);
            one.begin();
            other.begin();
            while (one.calls() < CALLS || other.calls() < CALLS) {
                MadeUpRun next = one.calls() <= other.calls() ? one : other;
                next.goOn();
            }
        }
    }

    private static void sameCallsSameAnswers() {
        for (int number = 0; number < 100 && !Check.anyWrong(); number++) {
            MadeUpRun one = new MadeUpRun(400000 + number);
            MadeUpRun other = new MadeUpRun(400000 + number);
            one.begin();
            other.begin();
            while (one.calls() < CALLS) {
                one.goOn();
                other.goOn();
            }
            Check.same("calls of the other one", other.calls(), one.calls());
        }
    }
}
