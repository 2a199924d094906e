import java.util.ArrayList;
import java.util.List;

/** The document once more, told another way (texts, lists, a table for patterns), to compare with. */
final class SlowPeer {
    private record Told(int state, List<boolean[]> pattern, String answer, int delay, int next) {
    }

    private record Due(long time, String answer) {
    }

    private final List<Told> rules = new ArrayList<>();
    private final List<Due> due = new ArrayList<>();
    private String tape = "";
    private String line = "";
    private String buffer = "";
    private final StringBuilder transcript = new StringBuilder();
    private boolean peer;
    private int state;
    private long time;

    boolean feed(int... numbers) {
        if (tape.length() + 20 > 1024) {
            return false;
        }
        StringBuilder more = new StringBuilder(tape);
        for (int number : numbers) {
            for (int shift = 24; shift >= 0; shift -= 8) {
                more.append((char) (number >> shift & 255));
            }
        }
        tape = more.toString();
        return true;
    }

    boolean end(int n) {
        boolean can = n >= 0 && n <= tape.length();
        tape = can ? tape.substring(0, n) : tape;
        return can;
    }

    private String takeTape() {
        String all = tape;
        tape = "";
        return all;
    }

    int rule(int of, int delay, int next) {
        String all = takeTape();
        int zero = all.indexOf('\0');
        if (zero < 0 || zero > 200 || all.length() - zero > 201 || rules.size() == 64) {
            return -1;
        }
        if (of < 0 || of > 31 || next < 0 || next > 31 || delay < 0 || delay > 1000) {
            return -1;
        }
        rules.add(new Told(of, items(all.substring(0, zero)), all.substring(zero + 1), delay, next));
        return rules.size() - 1;
    }

    void spawn() {
        peer = true;
        state = 0;
        line = "";
        buffer = "";
        due.clear();
        gets("");
    }

    private void gets(String whole) {
        for (Told rule : rules) {
            if (rule.state == state && fits(rule.pattern, whole)[whole.length()]) {
                state = rule.next;
                if (due.size() < 64) {
                    due.add(new Due(time + rule.delay, rule.answer));
                    due.sort((a, b) -> Long.compare(a.time, b.time));
                }
                return;
            }
        }
    }

    private void tell(String thing) {
        if (transcript.length() + thing.length() <= 32768) {
            transcript.append(thing);
        }
    }

    boolean send() {
        String all = takeTape();
        if (!peer) {
            return false;
        }
        tell("\1" + all);
        String[] parts = all.split("\n", -1);
        for (int i = 0; i < parts.length; i++) {
            line = line + parts[i];
            line = line.substring(0, Math.min(1024, line.length()));
            if (i < parts.length - 1) {
                gets(line);
                line = "";
            }
        }
        return true;
    }

    void put() {
        tell("\3" + takeTape() + "\n");
    }

    long come(long until) {
        if (due.isEmpty() || due.get(0).time > until) {
            return -1;
        }
        Due next = due.remove(0);
        tell("\2" + next.answer);
        buffer = buffer + next.answer;
        buffer = buffer.substring(Math.max(0, buffer.length() - 1024));
        time = Math.max(time, next.time);
        return time;
    }

    int fit() {
        boolean[] ends = fits(items("*" + takeTape()), buffer);
        for (int n = 0; n < ends.length; n++) {
            if (ends[n]) {
                return n;
            }
        }
        return -1;
    }

    boolean take(int n) {
        boolean can = n >= 0 && n <= buffer.length();
        buffer = can ? buffer.substring(n) : buffer;
        return can;
    }

    long pass(long n) {
        time += n < 0 ? 0 : n > 1000000 ? 1000000 : n;
        return time;
    }

    int total(int what) {
        int[] all = {state, due.size(), buffer.length(), transcript.length(), rules.size(), line.length()};
        return what >= 0 && what < all.length ? all[what] : -1;
    }

    int bufferAt(int i) {
        return i >= 0 && i < buffer.length() ? buffer.charAt(i) : -1;
    }

    int toldAt(int i) {
        return i >= 0 && i < transcript.length() ? transcript.charAt(i) : -1;
    }

    /** The pattern's items: null is a star. A char above 255 marks a byte that a backslash freed. */
    private static List<boolean[]> items(String pattern) {
        StringBuilder marked = new StringBuilder();
        for (int i = 0; i < pattern.length(); i++) {
            boolean frees = pattern.charAt(i) == '\\';
            if (frees && i + 1 < pattern.length()) {
                i++;
            }
            marked.append((char) (pattern.charAt(i) + (frees ? 256 : 0)));
        }
        String rest = marked.toString();
        List<boolean[]> items = new ArrayList<>();
        while (!rest.isEmpty()) {
            char first = rest.charAt(0);
            int used = 1;
            if (first == '*') {
                items.add(null);
            } else if (first == '[') {
                int close = rest.indexOf(']');
                used = close < 0 ? rest.length() : close + 1;
                items.add(choice(rest.substring(1, close < 0 ? used : close)));
            } else {
                items.add(one(first == '?' ? 0 : first & 255, first == '?' ? 255 : first & 255));
            }
            rest = rest.substring(used);
        }
        return items;
    }

    private static boolean[] one(int low, int high) {
        boolean[] set = new boolean[256];
        for (int i = low; i <= high; i++) {
            set[i] = true;
        }
        return set;
    }

    private static boolean[] choice(String inside) {
        boolean[] set = new boolean[256];
        int i = 0;
        while (i < inside.length()) {
            boolean range = i + 2 < inside.length() && inside.charAt(i + 1) == '-';
            boolean[] more = one(inside.charAt(i) & 255, inside.charAt(range ? i + 2 : i) & 255);
            for (int b = 0; b < 256; b++) {
                set[b] |= more[b];
            }
            i += range ? 3 : 1;
        }
        return set;
    }

    /** For each length of a beginning of the text whether the pattern fits it. */
    private static boolean[] fits(List<boolean[]> items, String text) {
        boolean[] now = new boolean[text.length() + 1];
        now[0] = true;
        for (boolean[] item : items) {
            boolean[] then = new boolean[now.length];
            for (int i = 0; i < now.length; i++) {
                if (item == null) {
                    then[i] = now[i] || i > 0 && then[i - 1];
                } else {
                    then[i] = i > 0 && now[i - 1] && item[text.charAt(i - 1)];
                }
            }
            now = then;
        }
        return now;
    }
}
