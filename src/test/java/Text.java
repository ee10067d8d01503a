/** Pieces of tapestries, numbered from 0: the events e0, e1 and so on, the tellers t0, t1 and so on. */
final class Text {
    static final int[] NEVER = {-1, Integer.MIN_VALUE, Integer.MAX_VALUE};

    private Text() {
    }

    static String events(int count) {
        return numbered(count, "event e");
    }

    static String tellers(int count) {
        return numbered(count, "teller t");
    }

    private static String numbered(int count, String start) {
        StringBuilder text = new StringBuilder();
        for (int n = 0; n < count; n++) {
            text.append(start).append(n).append("; ");
        }
        return text.toString();
    }

    /** A new tapestry of so many events and tellers, without claims and orders. */
    static StoryTapestry told(int events, int tellers) {
        return Check.taught(events(events) + tellers(tellers));
    }

    /** The text, with blanks ahead of it that make it so many bytes. */
    static String padded(String text, int length) {
        return " ".repeat(length - text.length()) + text;
    }

    /** Numbers that are no index of so many: those on either side of them, and the farthest. */
    static int[] outside(int count) {
        return new int[] {-1, count, count + 1, Integer.MIN_VALUE, Integer.MAX_VALUE};
    }

    /** The members of a set that holds n for its bit n. */
    static String members(int set) {
        StringBuilder text = new StringBuilder();
        for (int n = 0; n < 32; n++) {
            text.append((set >> n & 1) != 0 ? n + " " : "");
        }
        return text.toString();
    }
}
