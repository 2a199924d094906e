/** The boundary cases of promise 4 (rule) and of what Terms says of RULES, one sentence a method. */
public final class RuleBoundariesTest {
    private static final int NONE = PeerLine.NONE;
    private static final int LOWEST = Integer.MIN_VALUE;
    private static final int HIGHEST = Integer.MAX_VALUE;

    public static void main(String[] args) {
        rule64IsTheLast();
        rule65IsForgotten();
        rule65LeavesEmptyTape();
        stateFrom0To31();
        stateOutside();
        nextFrom0To31();
        nextOutside();
        delayFrom0To1000();
        delayOutside();
        patternOf200();
        patternOf201();
        answerOf200();
        answerOf201();
        bothOf200();
        emptyPattern();
        emptyAnswer();
        noByteZero();
        emptyTape();
        zeroBehindTheEnd();
        firstZeroParts();
        zeroBehindBackslash();
        zeroInChoice();
        refusedTakesNoNumber();
        refusedDoesNotAnswer();
        fullTape();
        firstRuleInOrder();
        onlyRulesOfTheState();
        noRuleFits();
        Check.done();
    }

    /** A rule that is not taken: NONE, the tape is empty, and there are as many rules as before. */
    private static void refused(String what, PeerLine x, int got, int rules) {
        Check.same(what, got, NONE);
        Check.tapeIsEmpty(what, x);
        Check.same(what + ": rules", x.total(4), rules);
    }

    private static PeerLine with64Rules() {
        PeerLine x = new PeerLine();
        for (int i = 0; i < 63; i++) {
            Check.same("4 rule " + i, Check.rule(x, 1, "", "", 0, 1), i);
        }
        Check.same("4 rules", x.total(4), 63);
        Check.same("4 rule 63", Check.rule(x, 0, "last", "L", 0, 2), 63);
        Check.same("4 rules", x.total(4), 64);
        return x;
    }

    private static void rule64IsTheLast() {
        PeerLine x = with64Rules();
        Check.same("Terms a 65th rule", Check.rule(x, 0, "more", "M", 0, 3), NONE);
        Check.same("Terms a 66th rule", Check.rule(x, 0, "more", "M", 0, 3), NONE);
        Check.same("Terms at most 64 rules", x.total(4), 64);
    }

    private static void rule65IsForgotten() {
        PeerLine x = with64Rules();
        Check.rule(x, 0, "more", "M", 0, 3);
        x.spawn();
        Check.send(x, "more\n");
        Check.same("Terms the 65th rule changes no state", x.total(0), 0);
        Check.same("Terms the 65th rule answers nothing", x.total(1), 0);
        Check.send(x, "last\n");
        Check.same("Terms the 64th rule is there", x.total(0), 2);
        Check.same("Terms the 64th rule answers", x.come(0), 0);
        Check.bufferIs("Terms the 64th rule", x, "L");
    }

    private static void rule65LeavesEmptyTape() {
        PeerLine x = with64Rules();
        refused("4 64 are there", x, Check.rule(x, 0, "more", "M", 0, 3), 64);
        x.put();
        Check.transcriptIs("4 nothing is left on the tape", x, "\3\n");
    }

    private static void stateFrom0To31() {
        PeerLine x = new PeerLine();
        Check.same("4 state 0", Check.rule(x, 0, "up", "", 0, 30), 0);
        Check.same("4 state 30", Check.rule(x, 30, "up", "", 0, 31), 1);
        Check.same("4 state 31", Check.rule(x, 31, "up", "", 0, 1), 2);
        x.spawn();
        Check.send(x, "up\nup\nup\n");
        Check.same("4 rules of the states 0, 30 and 31", x.total(0), 1);
    }

    private static void stateOutside() {
        PeerLine x = new PeerLine();
        int[] outside = {-1, 32, 64, 256, LOWEST, HIGHEST};
        for (int state : outside) {
            refused("4 state " + state, x, Check.rule(x, state, "", "a", 0, 1), 0);
        }
        x.spawn();
        Check.same("4 none of them answers in state 0", x.total(1), 0);
    }

    private static void nextFrom0To31() {
        PeerLine x = new PeerLine();
        Check.same("4 next 31", Check.rule(x, 0, "up", "", 0, 31), 0);
        Check.same("4 next 0", Check.rule(x, 31, "down", "", 0, 0), 1);
        x.spawn();
        Check.send(x, "up\n");
        Check.same("4 state is 31", x.total(0), 31);
        Check.send(x, "down\n");
        Check.same("4 state is 0", x.total(0), 0);
    }

    private static void nextOutside() {
        PeerLine x = new PeerLine();
        int[] outside = {-1, 32, 33, 257, LOWEST, HIGHEST};
        for (int next : outside) {
            refused("4 next " + next, x, Check.rule(x, 0, "", "a", 0, next), 0);
        }
        x.spawn();
        Check.same("4 none of them leads anywhere", x.total(0), 0);
    }

    private static void delayFrom0To1000() {
        PeerLine x = new PeerLine();
        Check.same("4 delay 1000", Check.rule(x, 0, "late", "l", 1000, 0), 0);
        Check.same("4 delay 0", Check.rule(x, 0, "now", "n", 0, 0), 1);
        Check.same("4 delay 1", Check.rule(x, 0, "soon", "s", 1, 0), 2);
        x.spawn();
        x.pass(7);
        Check.send(x, "late\nsoon\nnow\n");
        Check.same("4 not before the delay 0", x.come(6), NONE);
        Check.same("4 behind the delay 0", x.come(7), 7);
        Check.same("4 not before the delay 1", x.come(7), NONE);
        Check.same("4 behind the delay 1", x.come(8), 8);
        Check.same("4 not before the delay 1000", x.come(1006), NONE);
        Check.same("4 behind the delay 1000", x.come(1007), 1007);
        Check.bufferIs("4 delays", x, "nsl");
    }

    private static void delayOutside() {
        PeerLine x = new PeerLine();
        int[] outside = {-1, 1001, 65536, LOWEST, HIGHEST};
        for (int delay : outside) {
            refused("4 delay " + delay, x, Check.rule(x, 0, "", "a", delay, 0), 0);
        }
        x.spawn();
        Check.same("4 none of them answers", x.total(1), 0);
    }

    private static void patternOf200() {
        PeerLine x = new PeerLine();
        String most = "p".repeat(199);
        Check.same("4 pattern of 200", Check.rule(x, 0, most + "q", "", 0, 1), 0);
        x.spawn();
        Check.send(x, most + "\n" + most + "p\n" + most + "qq\n");
        Check.same("4 all 200 bytes of the pattern count", x.total(0), 0);
        Check.send(x, most + "q\n");
        Check.same("4 the pattern of 200 fits", x.total(0), 1);
    }

    private static void patternOf201() {
        PeerLine x = new PeerLine();
        String pattern = "p".repeat(201);
        refused("4 pattern of 201", x, Check.rule(x, 0, pattern, "", 0, 1), 0);
        refused("4 pattern of 201 with an answer", x, Check.rule(x, 0, pattern, "a", 0, 1), 0);
        refused("4 pattern of 201 stars", x, Check.rule(x, 0, "*".repeat(201), "", 0, 1), 0);
        x.spawn();
        Check.send(x, pattern + "\n" + pattern.substring(1) + "\n");
        Check.same("4 no part of it is a rule", x.total(0), 0);
        Check.same("4 the next one is the first", Check.rule(x, 0, "a", "b", 0, 0), 0);
    }

    private static void answerOf200() {
        PeerLine x = new PeerLine();
        String answer = "a".repeat(199) + "z";
        Check.same("4 answer of 200", Check.rule(x, 0, "", answer, 0, 0), 0);
        x.spawn();
        x.come(0);
        Check.bufferIs("4 all 200 bytes of the answer come", x, answer);
    }

    private static void answerOf201() {
        PeerLine x = new PeerLine();
        refused("4 answer of 201", x, Check.rule(x, 0, "", "a".repeat(201), 0, 0), 0);
        refused("4 answer of 201 with a pattern", x, Check.rule(x, 0, "*", "a".repeat(201), 0, 0), 0);
        refused("4 answer of 201 bytes 0", x, Check.rule(x, 0, "*", "\0".repeat(201), 0, 0), 0);
        x.spawn();
        Check.same("4 no part of it is to come", x.total(1), 0);
        Check.same("4 the next one is the first", Check.rule(x, 0, "a", "b", 0, 0), 0);
    }

    private static void bothOf200() {
        PeerLine x = new PeerLine();
        String pattern = "?".repeat(199) + "*";
        String answer = "\0".repeat(199) + "z";
        Check.same("4 both of 200", Check.rule(x, 0, pattern, answer, 0, 1), 0);
        Check.same("4 only the pattern too long", Check.rule(x, 0, pattern + "*", answer, 0, 1), NONE);
        Check.same("4 only the answer too long", Check.rule(x, 0, pattern, answer + "z", 0, 1), NONE);
        x.spawn();
        Check.send(x, "a".repeat(198) + "\n");
        Check.same("4 198 bytes do not fit", x.total(0), 0);
        Check.send(x, "a".repeat(199) + "\n");
        Check.same("4 199 bytes fit", x.total(0), 1);
        x.come(0);
        Check.bufferIs("4 both of 200", x, answer);
    }

    private static void emptyPattern() {
        PeerLine x = new PeerLine();
        Check.tape(x, "\0abc");
        Check.same("4 the byte 0 is the first byte", x.rule(0, 0, 1), 0);
        x.spawn();
        Check.same("4 an empty pattern fits an empty line", x.total(0), 1);
        x.come(0);
        Check.bufferIs("4 its answer", x, "abc");
    }

    private static void emptyAnswer() {
        PeerLine x = new PeerLine();
        Check.tape(x, "a\0");
        Check.same("4 the byte 0 is the last byte", x.rule(0, 3, 1), 0);
        x.spawn();
        Check.send(x, "a\n");
        Check.same("4 an empty answer is to come", x.total(1), 1);
        Check.same("4 an empty answer comes", x.come(3), 3);
        Check.bufferIs("4 an empty answer", x, "");
        PeerLine y = new PeerLine();
        Check.tape(y, "\0");
        Check.same("4 the byte 0 alone", y.rule(0, 0, 1), 0);
        y.spawn();
        Check.same("4 the byte 0 alone fits an empty line", y.total(0), 1);
    }

    private static void noByteZero() {
        PeerLine x = new PeerLine();
        Check.tape(x, "abc");
        refused("4 no byte 0", x, x.rule(0, 0, 0), 0);
        Check.tape(x, "*");
        refused("4 no byte 0 behind a star", x, x.rule(0, 0, 1), 0);
        Check.tape(x, "a\\0b");
        refused("4 the digit 0 is none", x, x.rule(0, 0, 0), 0);
        x.spawn();
        Check.same("4 none of them is a rule", x.total(0), 0);
    }

    private static void emptyTape() {
        PeerLine x = new PeerLine();
        refused("4 an empty tape", x, x.rule(0, 0, 1), 0);
        Check.same("4 a rule", Check.rule(x, 1, "", "", 0, 0), 0);
        refused("4 the tape of the rule before is gone", x, x.rule(0, 0, 1), 1);
        x.spawn();
        Check.same("4 an empty tape is no rule", x.total(0), 0);
    }

    private static void zeroBehindTheEnd() {
        PeerLine x = new PeerLine();
        Check.tape(x, "ab\0c");
        x.end(2);
        refused("4 a byte 0 that does not count", x, x.rule(0, 0, 0), 0);
        Check.tape(x, "ab\0c");
        x.end(3);
        Check.same("4 a byte 0 that counts", x.rule(0, 0, 0), 0);
    }

    private static void firstZeroParts() {
        PeerLine x = new PeerLine();
        Check.tape(x, "a\0\0b\0");
        Check.same("4 more than one byte 0", x.rule(0, 0, 1), 0);
        x.spawn();
        Check.send(x, "a\0\n");
        Check.same("4 no byte 0 is of the pattern", x.total(0), 0);
        Check.send(x, "a\n");
        x.come(0);
        Check.bufferIs("4 the other ones are of the answer", x, "\0b\0");
    }

    private static void zeroBehindBackslash() {
        PeerLine x = new PeerLine();
        Check.tape(x, "a\\\0b");
        Check.same("4 a byte 0 behind a backslash", x.rule(0, 0, 1), 0);
        x.spawn();
        Check.send(x, "a\\\n");
        Check.same("4 it ends the pattern all the same", x.total(0), 1);
        x.come(0);
        Check.bufferIs("4 the answer behind it", x, "b");
    }

    private static void zeroInChoice() {
        PeerLine x = new PeerLine();
        Check.tape(x, "[a\0]b");
        Check.same("4 a byte 0 behind a [", x.rule(0, 0, 1), 0);
        x.spawn();
        Check.send(x, "a\n");
        Check.same("4 it ends the pattern all the same", x.total(0), 1);
        x.come(0);
        Check.bufferIs("4 the answer behind it", x, "]b");
    }

    private static void refusedTakesNoNumber() {
        PeerLine x = new PeerLine();
        Check.same("4 number 0", Check.rule(x, 0, "a", "", 0, 0), 0);
        refused("4 a wrong state", x, Check.rule(x, 32, "a", "", 0, 0), 1);
        Check.same("4 number 1", Check.rule(x, 0, "a", "", 0, 0), 1);
        refused("4 a wrong delay", x, Check.rule(x, 0, "a", "", 1001, 0), 2);
        refused("4 a wrong next state", x, Check.rule(x, 0, "a", "", 0, 32), 2);
        refused("4 all numbers wrong", x, Check.rule(x, -1, "a", "", -1, -1), 2);
        refused("4 an empty tape", x, x.rule(0, 0, 0), 2);
        Check.same("4 number 2", Check.rule(x, 0, "a", "", 0, 0), 2);
    }

    private static void refusedDoesNotAnswer() {
        PeerLine x = new PeerLine();
        Check.rule(x, 0, "a", "old", 0, 0);
        Check.rule(x, 0, "b", "new", 0, 99);
        Check.tape(x, "c");
        x.rule(0, 0, 0);
        x.spawn();
        Check.send(x, "b\nc\na\n");
        Check.same("4 only the first is a rule", x.total(1), 1);
        x.come(0);
        Check.bufferIs("4 it is as it was", x, "old");
    }

    private static void fullTape() {
        PeerLine x = new PeerLine();
        refused("4 1023 bytes and a byte 0", x, Check.rule(x, 0, "a".repeat(1023), "", 0, 0), 0);
        refused("4 a byte 0 and 1023 bytes", x, Check.rule(x, 0, "", "a".repeat(1023), 0, 0), 0);
        Check.tape(x, "a".repeat(1024));
        refused("4 1024 bytes without a byte 0", x, x.rule(0, 0, 0), 0);
    }

    private static void firstRuleInOrder() {
        PeerLine x = new PeerLine();
        Check.rule(x, 0, "a?", "first", 5, 1);
        Check.rule(x, 0, "ab", "second", 0, 2);
        x.spawn();
        Check.send(x, "ab\n");
        Check.same("Terms the first rule's state", x.total(0), 1);
        Check.same("Terms one answer alone", x.total(1), 1);
        Check.same("Terms the first rule's delay", x.come(5), 5);
        Check.bufferIs("Terms the first rule's answer", x, "first");
    }

    private static void onlyRulesOfTheState() {
        PeerLine x = new PeerLine();
        Check.rule(x, 1, "*", "one", 0, 2);
        Check.rule(x, 31, "*", "last", 0, 2);
        Check.rule(x, 0, "a", "zero", 0, 31);
        x.spawn();
        Check.same("Terms no rule of state 0 fits", x.total(1), 0);
        Check.send(x, "a\na\n");
        Check.same("Terms the state of each line is the one then", x.total(0), 2);
        x.come(0);
        x.come(0);
        Check.bufferIs("Terms one answer of each state", x, "zerolast");
    }

    private static void noRuleFits() {
        PeerLine x = new PeerLine();
        Check.rule(x, 0, "a", "A", 0, 1);
        x.spawn();
        Check.send(x, "b\n");
        Check.same("Terms else the state is as it was", x.total(0), 0);
        Check.same("Terms else no answer", x.total(1), 0);
        Check.same("Terms the line is over all the same", x.total(5), 0);
        Check.transcriptIs("Terms else nothing", x, "\1b\n");
    }
}
