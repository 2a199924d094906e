/** Objects in the states from which the tests go on; each takes far fewer than the 512 calls. */
final class Made {
    static final int TRANSCRIPT_LIMIT = 32768;

    private Made() {
    }

    /** A peer that answers each line but an empty one with the given text at once. */
    static PeerLine answering(String answer) {
        PeerLine x = new PeerLine();
        Check.rule(x, 0, "?*", answer, 0, 0);
        x.spawn();
        return x;
    }

    /** What came is the text, of up to 1024 bytes; the peer is in a state that has no rule. */
    static PeerLine withBuffer(String text) {
        PeerLine x = new PeerLine();
        int parts = 0;
        for (int at = 0; at < text.length(); at += 200) {
            Check.rule(x, parts, "", text.substring(at, Math.min(at + 200, text.length())), 0, parts + 1);
            parts++;
        }
        x.spawn();
        Check.send(x, "\n".repeat(Math.max(0, parts - 1)));
        for (int i = 0; i < parts; i++) {
            Check.same("a part comes", x.come(0), 0);
        }
        Check.same("bytes in the buffer", x.total(2), text.length());
        return x;
    }

    /**
     * A transcript with room for so many bytes and no more; what came is taken, nothing is to come.
     * Rule 0 answers the line x with 200 bytes r.
     */
    static PeerLine withRoomOnTranscript(int room) {
        PeerLine x = new PeerLine();
        Check.rule(x, 0, "x", "r".repeat(200), 0, 0);
        x.spawn();
        int left = TRANSCRIPT_LIMIT;
        while (left - 121 - 201 >= room + 2) {
            Check.send(x, "x\n".repeat(60));
            left -= 121;
            for (int i = 0; i < 60 && left - 201 >= room + 2; i++) {
                x.come(0);
                left -= 201;
            }
        }
        Check.put(x, "p".repeat(left - room - 2));
        Check.same("bytes on the transcript", x.total(3), TRANSCRIPT_LIMIT - room);
        x.spawn();
        return x;
    }
}
