/** The boundary cases of PATTERNS in Terms and of promise 9 (fit), one sentence a method. */
public final class PatternBoundariesTest {
    private static final int NONE = PeerLine.NONE;

    public static void main(String[] args) {
        starFitsNone();
        starFitsAnyBytes();
        starsInARow();
        starOnALineOf1024();
        starTriesEachPlace();
        partsDoNotOverlap();
        questionMarkIsOneByte();
        questionMarkIsAnyByte();
        choiceIsOneByte();
        choiceUpToTheFirstBracket();
        choiceUpToTheEnd();
        choiceOfNone();
        choiceOfSpecialBytes();
        rangeWithItsEnds();
        rangeOfOne();
        rangeOfAll();
        rangeLowAboveHigh();
        rangeSecondIsBracket();
        rangeSecondIsTheEnd();
        rangeBesideSingles();
        rangeOfDashes();
        backslashMakesItself();
        backslashOfPlainByte();
        backslashAtTheEnd();
        backslashInChoice();
        backslashInRange();
        backslashAtTheEndOfChoice();
        othersThemselves();
        eachPlaceIsItsOwn();
        wholeLine();
        emptyPattern();
        longPatterns();
        fitShortest();
        fitEmptyPattern();
        fitEmptyBuffer();
        fitNone();
        fitAtBothEnds();
        fitStarBehind();
        fitLongerThanBuffer();
        fitOn1024();
        fitPatternOf1024();
        fitAnyBytes();
        fitEmptiesTape();
        fitChangesNothingElse();
        fitBehindTake();
        Check.done();
    }

    private static int stateBehind(String pattern, String line) {
        PeerLine x = new PeerLine();
        x.spawn();
        Check.rule(x, 0, pattern, "", 0, 1);
        for (int at = 0; at < line.length(); at += 1000) {
            Check.send(x, line.substring(at, Math.min(line.length(), at + 1000)));
        }
        Check.send(x, "\n");
        return x.total(0);
    }

    private static void fits(String pattern, String... lines) {
        for (String line : lines) {
            Check.same("Terms pattern " + pattern + " on line " + line, stateBehind(pattern, line), 1);
        }
    }

    private static void fitsNot(String pattern, String... lines) {
        for (String line : lines) {
            Check.same("Terms pattern " + pattern + " on line " + line, stateBehind(pattern, line), 0);
        }
    }

    /** Of all bytes but the newline, just those that are in the text fit the pattern as lines. */
    private static void fitsJust(String pattern, String bytes) {
        for (int value = 0; value <= 255; value++) {
            if (value != 10) {
                String line = String.valueOf((char) value);
                Check.same("Terms pattern " + pattern + " on byte " + value,
                        stateBehind(pattern, line), bytes.contains(line) ? 1 : 0);
            }
        }
        fitsNot(pattern, "");
    }

    private static String from(int low, int high) {
        StringBuilder all = new StringBuilder();
        for (int value = low; value <= high; value++) {
            all.append((char) value);
        }
        return all.toString();
    }

    private static void starFitsNone() {
        fits("*", "");
        fits("a*", "a");
        fits("*a", "a");
        fits("a*b", "ab");
        fitsNot("a*b", "a", "b", "");
    }

    private static void starFitsAnyBytes() {
        fits("*", "a", "*", "\0", "\u00ff", "a\r\0\t\u0080\u00ff");
        fits("a*b", "a\0\u00ffb", "a*b", "aab", "abb");
        fitsNot("a*b", "a\0", "xab", "abx");
    }

    private static void starsInARow() {
        fits("***", "", "a", "abc");
        fits("a**b", "ab", "axb");
        fitsNot("a**b", "a", "b");
        fits("**?**", "a", "ab");
        fitsNot("**?**", "");
        fits("*".repeat(200), "", "abc");
        fits("*?".repeat(100), "a".repeat(100));
        fitsNot("*?".repeat(100), "a".repeat(99));
    }

    private static void starOnALineOf1024() {
        fits("*", "-".repeat(1024));
        fits("a*z", "a" + "-".repeat(1022) + "z");
        fitsNot("a*z", "a" + "-".repeat(1023) + "z");
        fits("*" + "a".repeat(199), "a".repeat(1024));
        fitsNot("*" + "a".repeat(198) + "b", "a".repeat(1024));
    }

    private static void starTriesEachPlace() {
        fits("*ab", "aab", "abab", "abxab");
        fits("*aab*", "aaab", "aaaabx");
        fits("a*ab*b", "aabb", "axabxb", "aababb");
        fitsNot("a*ab*b", "abb", "aab", "aabba");
        fits("*a*b*c*", "cbabcab", "abc");
        fitsNot("*a*b*c*", "cba", "acb", "ab");
    }

    private static void partsDoNotOverlap() {
        fitsNot("a*a", "a");
        fits("a*a", "aa");
        fitsNot("ab*bc", "abc");
        fits("ab*bc", "abbc");
        fitsNot("*aba*aba*", "ababa");
        fits("*aba*aba*", "abaaba");
        fitsNot("??*??", "abc");
        fits("??*??", "abcd");
    }

    private static void questionMarkIsOneByte() {
        fits("?", "a");
        fitsNot("?", "", "ab");
        fits("a?", "ab");
        fitsNot("a?", "a", "abc");
        fits("???", "abc");
        fitsNot("???", "ab", "abcd");
    }

    private static void questionMarkIsAnyByte() {
        fitsJust("?", from(0, 255));
    }

    private static void choiceIsOneByte() {
        fitsJust("[abz]", "abz");
        fitsNot("[abz]", "ab", "[abz]");
        fits("[ab][ab]", "aa", "ba");
        fitsNot("[ab][ab]", "a", "aab");
        fitsJust("[aa]", "a");
    }

    private static void choiceUpToTheFirstBracket() {
        fits("[a]b]", "ab]");
        fitsNot("[a]b]", "a", "b", "]");
        fits("[a]]", "a]");
        fitsNot("[a]]", "a", "]");
        fits("[[]]", "[]");
        fitsNot("[[]]", "[", "]");
    }

    private static void choiceUpToTheEnd() {
        fitsJust("[ab", "ab");
        fitsJust("[a*", "a*");
        fitsJust("[a?[", "a?[");
        fits("x[ab", "xa", "xb");
        fitsNot("x[ab", "x", "xab", "x[ab");
        fitsJust("[a-c", "abc");
    }

    private static void choiceOfNone() {
        fitsJust("[]", "");
        fitsJust("[", "");
        fitsNot("[]", "[]", "]", "[");
        fitsNot("*[]*", "", "a", "abc");
        fitsNot("a[", "a", "a[");
        fitsNot("[]a", "a", "]a");
    }

    private static void choiceOfSpecialBytes() {
        fitsJust("[*]", "*");
        fitsJust("[?]", "?");
        fitsJust("[[]", "[");
        fitsJust("[^a]", "^a");
        fitsJust("[!a]", "!a");
    }

    private static void rangeWithItsEnds() {
        fitsJust("[b-d]", "bcd");
        fitsJust("[\u007f-\u0081]", "\u007f\u0080\u0081");
        fitsJust("[\u00fe-\u00ff]", "\u00fe\u00ff");
        fitsJust("[?-A]", "?@A");
        fitsJust("[\u00bf-\u00c0]", "\u00bf\u00c0");
    }

    private static void rangeOfOne() {
        fitsJust("[b-b]", "b");
        fitsJust("[\u00ff-\u00ff]", "\u00ff");
        fitsJust("[\1-\1]", "\1");
    }

    private static void rangeOfAll() {
        fitsJust("[\1-\u00ff]", from(1, 255));
        PeerLine x = Made.withBuffer("ab\n\0");
        Check.same("Terms a range from 0", Check.fit(x, "b[\0-\u00ff]"), 3);
        Check.same("Terms a range of 0", Check.fit(x, "[\0-\0]"), 4);
    }

    private static void rangeLowAboveHigh() {
        fitsJust("[c-b]", "");
        fitsJust("[\u00ff-a]", "");
        fitsJust("[\u0080-\177]", "");
        fitsJust("[c-bx]", "x");
        fitsJust("[xc-b]", "x");
        fitsJust("[c-ba-b]", "ab");
        fitsNot("*[c-b]*", "b", "c", "bc", "-");
    }

    private static void rangeSecondIsBracket() {
        fitsJust("[a-]", "a-");
        fits("[a-]b", "ab", "-b");
        fitsNot("[a-]b", "]b", "bb");
        fits("[+-]z]", "+z]", "-z]");
        fitsNot("[+-]z]", "+", "]", "z");
        fitsJust("[a-c-]", "abc-");
    }

    private static void rangeSecondIsTheEnd() {
        fitsJust("[a-", "a-");
        fitsJust("[-", "-");
        fitsJust("[a-c-", "abc-");
    }

    private static void rangeBesideSingles() {
        fitsJust("[xb-dz]", "xbcdz");
        fitsJust("[b-dm-n]", "bcdmn");
        fitsJust("[a-c-e]", "abc-e");
        fitsJust("[a-cb-d]", "abcd");
    }

    private static void rangeOfDashes() {
        fitsJust("[-a]", "-a");
        fitsJust("[-]", "-");
        fitsJust("[--]", "-");
        fitsJust("[---]", "-");
        fitsJust("[--/]", "-./");
        fitsJust("[+--]", "+,-");
        fitsJust("[a--]", "");
    }

    private static void backslashMakesItself() {
        fitsJust("\\*", "*");
        fitsJust("\\?", "?");
        fits("\\[a]", "[a]");
        fitsNot("\\[a]", "a", "\\a");
        fitsJust("\\\\", "\\");
        fits("\\\\*", "\\", "\\a");
        fits("\\\\\\*", "\\*");
        fitsNot("\\\\\\*", "\\", "\\a");
    }

    private static void backslashOfPlainByte() {
        fitsJust("\\a", "a");
        fitsJust("\\]", "]");
        fitsJust("\\n", "n");
        fitsJust("\\\u00ff", "\u00ff");
        PeerLine x = Made.withBuffer("a\0");
        Check.same("Terms a backslash makes the byte 0 itself", Check.fit(x, "\\\0"), 2);
    }

    private static void backslashAtTheEnd() {
        fitsJust("\\", "\\");
        fits("a\\", "a\\");
        fitsNot("a\\", "a", "a\\\\");
        fits("*\\", "\\", "a\\");
        fits("\\\\\\", "\\\\");
        fitsNot("\\\\\\", "\\", "\\\\\\");
        PeerLine x = Made.withBuffer("ab\\c");
        Check.same("Terms a backslash at the end of fit's pattern", Check.fit(x, "b\\"), 3);
    }

    private static void backslashInChoice() {
        fitsJust("[\\]]", "]");
        fitsJust("[\\]a]", "]a");
        fitsJust("[a\\]]", "a]");
        fitsJust("[\\\\]", "\\");
        fitsJust("[\\a\\*]", "a*");
        fitsJust("[a\\-c]", "a-c");
        fits("[\\]]]", "]]");
        fitsNot("[\\]]]", "]", "\\]");
    }

    private static void backslashInRange() {
        fitsJust("[\\a-c]", "abc");
        fitsJust("[a-\\c]", "abc");
        fitsJust("[\\a-\\c]", "abc");
        fitsJust("[\\]-_]", "]^_");
        fitsJust("[Z-\\]]", "Z[\\]");
        fitsJust("[\\\\-\\]]", "\\]");
        fitsJust("[c-\\a]", "");
    }

    private static void backslashAtTheEndOfChoice() {
        fitsJust("[\\", "\\");
        fitsJust("[a\\", "a\\");
        fitsJust("[\\]", "]");
        fitsJust("[a\\]", "a]");
        fitsJust("[Z-\\", "Z[\\");
    }

    private static void othersThemselves() {
        String plain = "abAB09]-^!{}().+$|/,;:'\"#%&=~`@_<> \t\r\1\177\u0080\u00ff";
        fits(plain, plain);
        fitsJust("]", "]");
        fitsJust("-", "-");
        fitsJust("a", "a");
        fitsJust("\u00e4", "\u00e4");
        fits("a-c", "a-c");
        fitsNot("a-c", "a", "b", "c");
    }

    private static void eachPlaceIsItsOwn() {
        fits("?a", "xa", "\u00ffa");
        fitsNot("?a", "x\0", "xb", "a\0");
        fitsNot("a?", "\0x", "\u00ffx");
        fitsNot("[b-\u00ff]a", "b\0", "bb", "\u00ff\u00ff");
        fitsNot("a[\1-b]", "ba", "\u00ffa", "\1a");
        fitsNot("\u00ffa", "\u00ff\0", "a\u00ff");
        fitsNot("?[]", "x\0", "xx", "x");
        fitsNot("[]?", "\0x", "\u00ffx", "xx");
    }

    private static void wholeLine() {
        fits("abc", "abc");
        fitsNot("abc", "ab", "abcd", "xabc", "abd", "");
        fitsNot("b", "abc", "ab", "bc");
    }

    private static void emptyPattern() {
        fits("", "");
        fitsNot("", "a", " ", "\0", "*");
    }

    private static void longPatterns() {
        fits("?".repeat(200), "a".repeat(200));
        fitsNot("?".repeat(200), "a".repeat(199), "a".repeat(201));
        fits("[" + from(100, 255) + "abc", "\u00ff", "a", "d");
        fits("[" + "b".repeat(198) + "a", "a", "b");
        fits("\\a".repeat(100), "a".repeat(100));
        fitsNot("\\a".repeat(100), "a".repeat(99), "a".repeat(101));
    }

    private static void fitShortest() {
        PeerLine x = Made.withBuffer("abcabcabd");
        Check.same("9 the first of three", Check.fit(x, "ab"), 2);
        Check.same("9 the first of two", Check.fit(x, "abc"), 3);
        Check.same("9 the only one", Check.fit(x, "abd"), 9);
        Check.same("9 with a star inside", Check.fit(x, "b*a"), 4);
        Check.same("9 one byte of any", Check.fit(x, "?"), 1);
        Check.same("9 four bytes of any", Check.fit(x, "????"), 4);
        Check.same("9 a star ahead is the same", Check.fit(x, "*abd"), 9);
        Check.same("9 two stars", Check.fit(x, "c*c*d"), 9);
    }

    private static void fitEmptyPattern() {
        PeerLine x = Made.withBuffer("abc");
        Check.same("9 an empty tape fits the empty beginning", x.fit(), 0);
        Check.same("9 so does a star", Check.fit(x, "*"), 0);
        Check.same("9 so do stars", Check.fit(x, "***"), 0);
    }

    private static void fitEmptyBuffer() {
        PeerLine x = new PeerLine();
        Check.same("9 an empty tape on an empty buffer", x.fit(), 0);
        Check.same("9 a star on an empty buffer", Check.fit(x, "*"), 0);
        Check.same("9 a byte on an empty buffer", Check.fit(x, "a"), NONE);
        Check.same("9 one of any on an empty buffer", Check.fit(x, "?"), NONE);
        Check.same("9 one of some on an empty buffer", Check.fit(x, "[\0-\u00ff]"), NONE);
    }

    private static void fitNone() {
        PeerLine x = Made.withBuffer("abc");
        Check.same("9 another byte", Check.fit(x, "d"), NONE);
        Check.same("9 another order", Check.fit(x, "c*a"), NONE);
        Check.same("9 none of a choice", Check.fit(x, "[]"), NONE);
        Check.same("9 none of a range", Check.fit(x, "[c-a]"), NONE);
        Check.same("9 one too many behind the end", Check.fit(x, "c?"), NONE);
        Check.same("9 the same byte twice", Check.fit(x, "c*c"), NONE);
    }

    private static void fitAtBothEnds() {
        PeerLine x = Made.withBuffer("abc");
        Check.same("9 the first byte", Check.fit(x, "a"), 1);
        Check.same("9 the last byte", Check.fit(x, "c"), 3);
        Check.same("9 all of it", Check.fit(x, "abc"), 3);
        Check.same("9 all of it with a star", Check.fit(x, "a*c"), 3);
    }

    private static void fitStarBehind() {
        PeerLine x = Made.withBuffer("abcb");
        Check.same("9 a star behind takes nothing", Check.fit(x, "b*"), 2);
        Check.same("9 stars behind take nothing", Check.fit(x, "*b***"), 2);
    }

    private static void fitLongerThanBuffer() {
        PeerLine x = Made.withBuffer("abc");
        Check.same("9 as long as the buffer", Check.fit(x, "???"), 3);
        Check.same("9 longer by one", Check.fit(x, "????"), NONE);
        Check.same("9 longer by many", Check.fit(x, "?".repeat(1024)), NONE);
    }

    private static void fitOn1024() {
        PeerLine x = Made.withBuffer("a" + "-".repeat(1021) + "yz");
        Check.same("9 the last of 1024", Check.fit(x, "z"), 1024);
        Check.same("9 the last two of 1024", Check.fit(x, "yz"), 1024);
        Check.same("9 behind 1024", Check.fit(x, "z?"), NONE);
        Check.same("9 from the first to the last of 1024", Check.fit(x, "a*z"), 1024);
        Check.same("9 the first of 1024", Check.fit(x, "a"), 1);
    }

    private static void fitPatternOf1024() {
        PeerLine x = Made.withBuffer("a".repeat(1023) + "b");
        Check.same("9 a pattern of 201", Check.fit(x, "a".repeat(200) + "b"), 1024);
        Check.same("9 a pattern of 1024", Check.fit(x, "a".repeat(1023) + "b"), 1024);
        Check.same("9 another pattern of 1024", Check.fit(x, "b" + "a".repeat(1023)), NONE);
        Check.same("9 a choice of 1024", Check.fit(x, "[" + "x".repeat(1021) + "b]"), 1024);
        Check.same("9 1023 stars", Check.fit(x, "*".repeat(1023) + "b"), 1024);
    }

    private static void fitAnyBytes() {
        PeerLine x = Made.withBuffer("a\n\0\u00ff\r");
        Check.same("9 a newline", Check.fit(x, "\n"), 2);
        Check.same("9 the byte 0 ends no pattern here", Check.fit(x, "\0\u00ff"), 4);
        Check.same("9 a star over all", Check.fit(x, "a*\r"), 5);
        Check.same("9 one of any is a newline, too", Check.fit(x, "a?\0"), 3);
        Check.same("9 byte 255", Check.fit(x, "[\u0080-\u00ff]"), 4);
    }

    private static void fitEmptiesTape() {
        PeerLine x = Made.withBuffer("abc");
        Check.same("9 fits", Check.fit(x, "b"), 2);
        Check.tapeIsEmpty("9 fits", x);
        Check.same("9 fits not", Check.fit(x, "d"), NONE);
        Check.tapeIsEmpty("9 fits not", x);
        Check.same("9 nothing is left of the pattern", x.fit(), 0);
    }

    private static void fitChangesNothingElse() {
        PeerLine x = Made.withBuffer("abc");
        int told = x.total(3);
        Check.fit(x, "b");
        Check.fit(x, "d");
        Check.bufferIs("9 the buffer stays", x, "abc");
        Check.same("9 the transcript stays", x.total(3), told);
        Check.same("9 the rules stay", x.total(4), 1);
        Check.same("9 the state stays", x.total(0), 1);
        Check.same("9 the line stays", x.total(5), 0);
    }

    private static void fitBehindTake() {
        PeerLine x = Made.withBuffer("abcab");
        int first = Check.fit(x, "ab");
        Check.yes("9 it is taken", x.take(first));
        Check.same("9 the next one", Check.fit(x, "ab"), 3);
        Check.yes("9 it is taken, too", x.take(3));
        Check.same("9 no other", Check.fit(x, "ab"), NONE);
    }
}
