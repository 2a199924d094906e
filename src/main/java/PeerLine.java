import java.util.Arrays;

/** A peer on a line, told by rules. The numbered promises stand in ../shared/DOC.md. */
public final class PeerLine {
    public static final int NONE = -1;

    private static final int TAPE_LIMIT = 1024;
    private static final int LINE_LIMIT = 1024;
    private static final int BUFFER_LIMIT = 1024;
    private static final int TRANSCRIPT_LIMIT = 32768;
    private static final int RULE_LIMIT = 64;
    private static final int RULE_TEXT_LIMIT = 200;
    private static final int COMING_LIMIT = 64;
    private static final int LAST_STATE = 31;
    private static final int LONGEST_DELAY = 1000;
    private static final long LONGEST_PASS = 1000000L;
    private static final int FED_BYTES = 20;
    private static final int NEWLINE = 10;
    private static final int SENT = 1;
    private static final int RECEIVED = 2;
    private static final int PUT_OUT = 3;

    private final Bytes tape;
    private final Bytes line;
    private final Bytes buffer;
    private final Bytes transcript;
    private final Rule[] rules;
    private final Coming coming;
    private int ruleCount;
    private boolean hasPeer;
    private int peerState;
    private long time;

    public PeerLine() {
        tape = new Bytes(TAPE_LIMIT);
        line = new Bytes(LINE_LIMIT);
        buffer = new Bytes(BUFFER_LIMIT);
        transcript = new Bytes(TRANSCRIPT_LIMIT);
        rules = new Rule[RULE_LIMIT];
        coming = new Coming();
        ruleCount = 0;
        hasPeer = false;
        peerState = 0;
        time = 0L;
    }

    public boolean feed(int a, int b, int c, int d, int e) {
        if (!tape.hasRoomFor(FED_BYTES)) {
            return false;
        }
        tape.appendNumber(a);
        tape.appendNumber(b);
        tape.appendNumber(c);
        tape.appendNumber(d);
        tape.appendNumber(e);
        return true;
    }

    public boolean end(int n) {
        return tape.keepFirst(n);
    }

    public int rule(int state, int delay, int next) {
        int number = NONE;
        int zeroAt = tape.firstZero();
        boolean numbersFit = isState(state) && isState(next) && delay >= 0 && delay <= LONGEST_DELAY;
        if (numbersFit && tapeIsRule(zeroAt) && ruleCount < rules.length) {
            Pattern pattern = new Pattern(tape, zeroAt);
            rules[ruleCount] = new Rule(state, pattern, tape.copyFrom(zeroAt + 1, RULE_TEXT_LIMIT), delay, next);
            number = ruleCount;
            ruleCount++;
        }
        tape.clear();
        return number;
    }

    public void spawn() {
        hasPeer = true;
        peerState = 0;
        line.clear();
        coming.clear();
        buffer.clear();
        answerLine();
    }

    public boolean send() {
        if (hasPeer) {
            tell(SENT, tape, false);
            giveTapeToPeer();
        }
        tape.clear();
        return hasPeer;
    }

    public void put() {
        tell(PUT_OUT, tape, true);
        tape.clear();
    }

    public long come(long until) {
        Bytes answer = coming.first();
        if (answer == null || coming.firstTime() > until) {
            return NONE;
        }
        time = Math.max(time, coming.firstTime());
        coming.dropFirst();
        tell(RECEIVED, answer, false);
        // The buffer loses its oldest bytes rather than the new ones.
        buffer.dropFirst(Math.max(0, buffer.size() + answer.size() - BUFFER_LIMIT));
        buffer.appendAll(answer);
        return time;
    }

    public int fit() {
        Pattern pattern = new Pattern(tape, tape.size());
        tape.clear();
        return pattern.shortestBeginning(buffer);
    }

    public boolean take(int n) {
        return buffer.dropFirst(n);
    }

    public long pass(long n) {
        time += Math.max(0L, Math.min(n, LONGEST_PASS));
        return time;
    }

    public int total(int what) {
        switch (what) {
            case 0:
                return peerState;
            case 1:
                return coming.size();
            case 2:
                return buffer.size();
            case 3:
                return transcript.size();
            case 4:
                return ruleCount;
            case 5:
                return line.size();
            default:
                return NONE;
        }
    }

    public int bufferAt(int i) {
        return buffer.at(i);
    }

    public int toldAt(int i) {
        return transcript.at(i);
    }

    private static boolean isState(int number) {
        return number >= 0 && number <= LAST_STATE;
    }

    private boolean tapeIsRule(int zeroAt) {
        return zeroAt >= 0 && zeroAt <= RULE_TEXT_LIMIT
                && tape.size() - zeroAt - 1 <= RULE_TEXT_LIMIT;
    }

    private void giveTapeToPeer() {
        for (int i = 0; i < tape.size(); i++) {
            int value = tape.at(i);
            if (value == NEWLINE) {
                answerLine();
                line.clear();
            } else {
                // A full row takes no more, so only a line's first bytes count.
                line.append(value);
            }
        }
    }

    private void answerLine() {
        for (int i = 0; i < ruleCount && i < rules.length; i++) {
            Rule rule = rules[i];
            if (rule != null && rule.state == peerState && rule.pattern.fitsWhole(line)) {
                peerState = rule.next;
                coming.add(time + rule.delay, rule.answer);
                return;
            }
        }
    }

    private void tell(int kind, Bytes thing, boolean withNewline) {
        int length = 1 + thing.size() + (withNewline ? 1 : 0);
        if (!transcript.hasRoomFor(length)) {
            return;
        }
        transcript.append(kind);
        transcript.appendAll(thing);
        if (withNewline) {
            transcript.append(NEWLINE);
        }
    }

    /** Bytes up to a limit; the row grows with its use, so that a hardly used object stays small. */
    private static final class Bytes {
        private static final int FIRST_ROOM = 64;

        private final int limit;
        private byte[] row;
        private int size;

        Bytes(int limit) {
            this.limit = Math.max(0, limit);
            this.row = new byte[Math.min(this.limit, FIRST_ROOM)];
            this.size = 0;
        }

        int size() {
            return size;
        }

        int at(int i) {
            return i >= 0 && i < size && i < row.length ? row[i] & 255 : NONE;
        }

        boolean hasRoomFor(int more) {
            return more <= limit - size;
        }

        int firstZero() {
            for (int i = 0; i < size; i++) {
                if (at(i) == 0) {
                    return i;
                }
            }
            return NONE;
        }

        void clear() {
            size = 0;
        }

        boolean keepFirst(int n) {
            if (n < 0 || n > size) {
                return false;
            }
            size = n;
            return true;
        }

        boolean dropFirst(int n) {
            if (n < 0 || n > size) {
                return false;
            }
            System.arraycopy(row, n, row, 0, size - n);
            size -= n;
            return true;
        }

        void append(int value) {
            if (size >= limit) {
                return;
            }
            if (size >= row.length) {
                row = Arrays.copyOf(row, Math.min(limit, size + size));
            }
            if (size < row.length) {
                row[size] = (byte) value;
                size++;
            }
        }

        void appendNumber(int number) {
            append(number >>> 24);
            append(number >>> 16);
            append(number >>> 8);
            append(number);
        }

        void appendAll(Bytes other) {
            for (int i = 0; i < other.size(); i++) {
                append(other.at(i));
            }
        }

        Bytes copyFrom(int from, int copyLimit) {
            Bytes copy = new Bytes(copyLimit);
            for (int i = Math.max(0, from); i < size; i++) {
                copy.append(at(i));
            }
            return copy;
        }
    }

    private static final class Rule {
        private final int state;
        private final Pattern pattern;
        private final Bytes answer;
        private final int delay;
        private final int next;

        Rule(int state, Pattern pattern, Bytes answer, int delay, int next) {
            this.state = state;
            this.pattern = pattern;
            this.answer = answer;
            this.delay = delay;
            this.next = next;
        }
    }

    /** The answers that are to come, the next one first. */
    private static final class Coming {
        private final long[] times;
        private final Bytes[] answers;
        private int count;

        Coming() {
            times = new long[COMING_LIMIT];
            answers = new Bytes[COMING_LIMIT];
            count = 0;
        }

        int size() {
            return count;
        }

        Bytes first() {
            return count > 0 ? answers[0] : null;
        }

        long firstTime() {
            return count > 0 ? times[0] : 0L;
        }

        void clear() {
            count = 0;
        }

        void add(long when, Bytes answer) {
            if (count >= COMING_LIMIT) {
                return;
            }
            // Only later ones make way: of one time, the one given first stays ahead.
            int place = count;
            while (place > 0 && times[place - 1] > when) {
                times[place] = times[place - 1];
                answers[place] = answers[place - 1];
                place--;
            }
            times[place] = when;
            answers[place] = answer;
            count++;
        }

        void dropFirst() {
            if (count <= 0) {
                return;
            }
            for (int i = 1; i < count; i++) {
                times[i - 1] = times[i];
                answers[i - 1] = answers[i];
            }
            count--;
        }
    }

    /** Reads the bytes of a pattern from the first on; NONE stands for the end. */
    private static final class PatternReader {
        private final Bytes source;
        private final int length;
        private int at;

        PatternReader(Bytes source, int length) {
            this.source = source;
            this.length = length;
            this.at = 0;
        }

        int ahead(int distance) {
            return at + distance < length ? source.at(at + distance) : NONE;
        }

        void skip() {
            at++;
        }

        int nextItself() {
            if (ahead(0) == '\\' && ahead(1) != NONE) {
                at++;
            }
            int value = ahead(0);
            at++;
            return value;
        }
    }

    /**
     * A pattern as a row of items, each a star or a set of bytes of which one must stand there.
     * The runs of sets between stars have fixed lengths, so the earliest place for each run,
     * one behind the other, is never worse than a later one: no way back is needed.
     */
    private static final class Pattern {
        private static final int HIGHEST_BYTE = 255;
        private static final int SET_WORDS = 4;

        private final long[] sets;
        private final boolean[] stars;
        private int count;

        Pattern(Bytes source, int length) {
            int most = Math.max(0, Math.min(length, source.size()));
            sets = new long[most * SET_WORDS];
            stars = new boolean[most];
            PatternReader reader = new PatternReader(source, most);
            // Each item has at least one byte, so there are never more than most of them.
            for (count = 0; count < most && reader.ahead(0) != NONE; count++) {
                readItem(reader);
            }
        }

        private void readItem(PatternReader reader) {
            switch (reader.ahead(0)) {
                case '*':
                    reader.skip();
                    markStar();
                    break;
                case '?':
                    reader.skip();
                    allow(0, HIGHEST_BYTE);
                    break;
                case '[':
                    reader.skip();
                    readChoice(reader);
                    break;
                default:
                    int value = reader.nextItself();
                    allow(value, value);
                    break;
            }
        }

        private void readChoice(PatternReader reader) {
            for (int i = 0; i < stars.length; i++) {
                if (reader.ahead(0) == NONE || reader.ahead(0) == ']') {
                    break;
                }
                int low = reader.nextItself();
                int high = low;
                if (reader.ahead(0) == '-' && reader.ahead(1) != ']' && reader.ahead(1) != NONE) {
                    reader.skip();
                    high = reader.nextItself();
                }
                allow(low, high);
            }
            reader.skip();
        }

        private void markStar() {
            if (count >= 0 && count < stars.length) {
                stars[count] = true;
            }
        }

        private void allow(int low, int high) {
            for (int value = Math.max(0, low); value <= high && value <= HIGHEST_BYTE; value++) {
                int word = count * SET_WORDS + (value >> 6);
                if (word < sets.length) {
                    sets[word] |= 1L << (value & 63);
                }
            }
        }

        private boolean isStar(int item) {
            return item >= 0 && item < stars.length && stars[item];
        }

        private int starOrEndFrom(int item) {
            int at = item;
            while (at < count && !isStar(at)) {
                at++;
            }
            return at;
        }

        private int behindLastStar() {
            int item = count;
            while (item > 0 && !isStar(item - 1)) {
                item--;
            }
            return item;
        }

        boolean fitsWhole(Bytes text) {
            int headEnd = starOrEndFrom(0);
            if (headEnd == count) {
                return text.size() == count && standsAt(text, 0, 0, count);
            }
            int tail = behindLastStar();
            int tailPlace = text.size() - (count - tail);
            return headEnd <= tailPlace
                    && standsAt(text, 0, 0, headEnd)
                    && standsAt(text, tailPlace, tail, count)
                    && earliestEnd(text, headEnd, tailPlace, headEnd, tail) != NONE;
        }

        int shortestBeginning(Bytes text) {
            return earliestEnd(text, 0, text.size(), 0, count);
        }

        /** Where the items' last run ends when each run takes its earliest place in from .. to. */
        private int earliestEnd(Bytes text, int from, int to, int firstItem, int itemsEnd) {
            int place = from;
            int item = firstItem;
            while (item < itemsEnd) {
                int runEnd = Math.min(itemsEnd, starOrEndFrom(item));
                place = earliestPlace(text, place, to, item, runEnd);
                if (place == NONE) {
                    return NONE;
                }
                place += runEnd - item;
                item = Math.max(item, runEnd) + 1;
            }
            return place;
        }

        private int earliestPlace(Bytes text, int from, int to, int item, int runEnd) {
            for (int place = from; place <= to - (runEnd - item); place++) {
                if (standsAt(text, place, item, runEnd)) {
                    return place;
                }
            }
            return NONE;
        }

        private boolean standsAt(Bytes text, int place, int item, int runEnd) {
            for (int i = item; i < runEnd; i++) {
                int value = text.at(place + i - item);
                int word = i * SET_WORDS + (value >> 6);
                if (value == NONE || word < 0 || word >= sets.length
                        || (sets[word] >>> (value & 63) & 1L) == 0L) {
                    return false;
                }
            }
            return true;
        }
    }
}
