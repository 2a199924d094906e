/** Patterns on whole lines (by a rule) and on beginnings of the buffer (by fit). */
public final class PatternsTest {
    public static void main(String[] args) {
        plain();
        stars();
        choices();
        ranges();
        backslashes();
        openChoices();
        highBytes();
        beginnings();
        Check.done();
    }

    /** Says for each of the lines whether the pattern fits it: those in fits do, those in not don't. */
    private static void lines(String pattern, String[] fits, String[] not) {
        for (String line : fits) {
            Check.same("rule " + pattern + " on line " + line, state(pattern, line), 1);
        }
        for (String line : not) {
            Check.same("rule " + pattern + " on line " + line, state(pattern, line), 0);
        }
    }

    private static int state(String pattern, String line) {
        PeerLine x = new PeerLine();
        x.spawn();
        Check.rule(x, 0, pattern, "", 0, 1);
        Check.send(x, line + "\n");
        return x.total(0);
    }

    private static String[] of(String... all) {
        return all;
    }

    private static void plain() {
        lines("", of(""), of("a"));
        lines("abc", of("abc"), of("", "ab", "abcd", "xabc", "abd", "ABC"));
        lines("?", of("a", "?", "\0", "\u00ff"), of("", "ab"));
        lines("a?c", of("abc", "a?c", "a]c"), of("ac", "abbc", "xbc"));
        lines("]-^!", of("]-^!"), of("]", "-"));
    }

    private static void stars() {
        lines("*", of("", "a", "abc", "*"), of());
        lines("**", of("", "a"), of());
        lines("a*", of("a", "ab", "a*"), of("", "ba"));
        lines("*a", of("a", "ba", "aa", "aba"), of("", "ab"));
        lines("a*a", of("aa", "aba", "aaa"), of("a", "ab", "aab"));
        lines("*a*", of("a", "bab", "ab"), of("", "b"));
        lines("ab*ba", of("abba", "abxba", "ababa"), of("aba", "ab", "abbab"));
        lines("*ab*ab*", of("abab", "xabyabz"), of("ab", "aba", "baba"));
        lines("*aab", of("aaab", "aab", "aabaab"), of("aaba", "ab"));
        lines("a*b*c", of("abc", "aXbXc", "abbcc", "abcbc"), of("ac", "acb", "abcb"));
        lines("?*", of("a", "ab"), of(""));
        lines("*?", of("a", "ab"), of(""));
        lines("*??*", of("ab", "abc"), of("", "a"));
        lines("*a?b*b", of("axbb", "aaxbb", "axbaab"), of("axb", "ab", "axba"));
    }

    private static void choices() {
        lines("[abc]", of("a", "b", "c"), of("", "d", "ab", "[abc]", "]"));
        lines("x[ab]y", of("xay", "xby"), of("xy", "xcy", "xaby"));
        lines("[]", of(), of("", "]", "[", "[]", "a"));
        lines("[]a]", of(), of("a", "]", "a]", "]a]", "[]a]"));
        lines("[a]]", of("a]"), of("a", "]", "]]"));
        lines("[[]", of("["), of("]", "[]"));
        lines("[*?]", of("*", "?"), of("a", "", "**"));
        lines("[!a]", of("!", "a"), of("b"));
        lines("[^a]", of("^", "a"), of("b"));
        lines("*[ab]*", of("a", "xxb", "bxx"), of("", "xx"));
    }

    private static void ranges() {
        lines("[b-d]", of("b", "c", "d"), of("a", "e", "-"));
        lines("[b-b]", of("b"), of("a", "c", "-"));
        lines("[d-b]", of(), of("b", "c", "d", "-", ""));
        lines("[d-bx]", of("x"), of("b", "c", "d", "-"));
        lines("[a-]", of("a", "-"), of("b", "]"));
        lines("[-a]", of("a", "-"), of("b"));
        lines("[-]", of("-"), of("", "]"));
        lines("[--0]", of("-", ".", "/", "0"), of(",", "1"));
        lines("[+--]", of("+", ",", "-"), of("*", "."));
        lines("[---]", of("-"), of(",", "."));
        lines("[a--]", of(), of("a", "-"));
        lines("[a-c-e]", of("a", "b", "c", "-", "e"), of("d"));
        lines("[a-ce-g]", of("a", "c", "e", "f", "g"), of("d", "-"));
        lines("[0-9a-fA-F][0-9]", of("a0", "F9", "77"), of("g0", "aa", "0"));
        lines("[Z-[]", of("Z", "["), of("]", "-", "Y"));
        lines("[*-?]", of("*", "+", "5", "?"), of("@", ")"));
    }

    private static void backslashes() {
        lines("\\*", of("*"), of("", "a", "\\*", "\\"));
        lines("\\?", of("?"), of("a"));
        lines("\\[a]", of("[a]"), of("a"));
        lines("\\\\", of("\\"), of("\\\\"));
        lines("\\a", of("a"), of("\\a"));
        lines("a\\", of("a\\"), of("a", "a\\\\"));
        lines("\\", of("\\"), of(""));
        lines("*\\", of("\\", "a\\"), of("a", ""));
        lines("\\\\*", of("\\", "\\abc"), of("a"));
        lines("[\\]]", of("]"), of("\\", "\\]", "]]"));
        lines("[\\]a]", of("]", "a"), of("\\"));
        lines("[\\\\]", of("\\"), of("]", "\\]"));
        lines("[a\\-c]", of("a", "-", "c"), of("b", "\\"));
        lines("[\\a-c]", of("a", "b", "c"), of("\\", "-"));
        lines("[a-\\c]", of("a", "b", "c"), of("\\", "-"));
        lines("[A-\\]]", of("A", "Z", "\\", "]"), of("^", "-", "A]"));
        lines("[\\--0]", of("-", ".", "0"), of(",", "\\"));
        lines("[\\]-a]", of("]", "^", "`", "a"), of("\\", "b", "-"));
        lines("[\\*]", of("*"), of("\\"));
    }

    private static void openChoices() {
        lines("[", of(), of("", "[", "a"));
        lines("[a", of("a"), of("", "[", "[a"));
        lines("[ab*", of("a", "b", "*"), of("", "abc"));
        lines("[a-c", of("a", "b", "c"), of("-", "d"));
        lines("[a-", of("a", "-"), of("b", ""));
        lines("[-", of("-"), of("["));
        lines("[\\", of("\\"), of("[", ""));
        lines("[a\\", of("a", "\\"), of("["));
        lines("[\\]", of("]"), of("\\", "[", "\\]"));
        lines("[A-\\", of("A", "Z", "[", "\\"), of("-", "]", "a"));
        lines("[a-\\", of(), of("a", "-", "\\"));
        lines("x[", of(), of("x", "x["));
        lines("*[", of(), of("", "["));
    }

    private static void highBytes() {
        lines("\u00ff", of("\u00ff"), of("\177", "\u00fe", ""));
        lines("[\u0080-\u00ff]", of("\u0080", "\u00c0", "\u00ff"), of("\177", "a", "\0"));
        lines("[a-\u00ff]", of("a", "\177", "\u0080", "\u00ff"), of("`", "\0"));
        lines("[\u00ff-a]", of(), of("a", "\u00ff", "\u0080", "\0"));
        lines("[\1-\u00ff]", of("\1", "?", "@", "\177", "\u0080", "\u00bf", "\u00c0", "\u00ff"), of("\0"));
        lines("a*\r", of("a\r", "ab\r"), of("a"));
    }

    private static void beginnings() {
        PeerLine x = new PeerLine();
        Check.rule(x, 0, "", "aaxab\n[c]*d\\\0aab", 0, 0);
        x.spawn();
        x.come(0);
        Check.same("fit aab", Check.fit(x, "aab"), 16);
        Check.same("fit ab", Check.fit(x, "ab"), 5);
        Check.same("fit a*b", Check.fit(x, "a*b"), 5);
        Check.same("fit *a*b*", Check.fit(x, "*a*b*"), 5);
        Check.same("fit a?a", Check.fit(x, "a?a"), 4);
        Check.same("fit ?", Check.fit(x, "?"), 1);
        Check.same("fit ??*?", Check.fit(x, "??*?"), 3);
        Check.same("fit newline", Check.fit(x, "\n"), 6);
        Check.same("fit b?[[]", Check.fit(x, "b?[[]"), 7);
        Check.same("fit \\*", Check.fit(x, "\\*"), 10);
        Check.same("fit backslash at the end", Check.fit(x, "d\\"), 12);
        Check.same("fit [\\0]", Check.fit(x, "[\0]"), 13);
        Check.same("fit [\\0-\\n]", Check.fit(x, "[\0-\n]"), 6);
        Check.same("fit []", Check.fit(x, "[]"), -1);
        Check.same("fit *[", Check.fit(x, "*["), -1);
        Check.same("fit b*b*b", Check.fit(x, "b*b*b"), -1);
        Check.same("fit b*b", Check.fit(x, "b*b"), 16);
        Check.same("fit aab?", Check.fit(x, "aab?"), -1);
        Check.same("fit too long", Check.fit(x, Check.many("?", 17)), -1);
        Check.same("fit as long", Check.fit(x, Check.many("?", 16)), 16);
    }
}
