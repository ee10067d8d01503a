import java.nio.charset.StandardCharsets;

/** What the tests have in common: checks that count what is wrong, and the way to teach a text. */
final class Check {
    interface Call {
        Object answer();
    }

    static final Class<IndexOutOfBoundsException> INDEX = IndexOutOfBoundsException.class;
    static final Class<IllegalArgumentException> ARGUMENT = IllegalArgumentException.class;
    static final Class<IllegalStateException> STATE = IllegalStateException.class;

    private static int checks = 0;
    private static int wrong = 0;

    private Check() {
    }

    static void same(String what, Object got, Object due) {
        checks++;
        if (!due.equals(got)) {
            wrong++;
            System.out.println(what + " answered " + got + ", due is " + due);
        }
    }

    static void yes(String what, boolean got) {
        same(what, got, true);
    }

    static void no(String what, boolean got) {
        same(what, got, false);
    }

    /** The call has to throw just this exception and to leave all as it is. */
    static void refused(StoryTapestry x, String what, Class<? extends RuntimeException> due, Call call) {
        long before = x.digest();
        int place = x.errorAt();
        same(what, outcome(call), "throws " + due.getName());
        same(what + ": the digest behind it", x.digest(), before);
        same(what + ": errorAt() behind it", x.errorAt(), place);
    }

    static Object outcome(Call call) {
        try {
            return call.answer();
        } catch (RuntimeException e) {
            return "throws " + e.getClass().getName();
        }
    }

    /** Puts the text on the tape, which is empty. */
    static void write(StoryTapestry x, String text) {
        write(x, text.getBytes(StandardCharsets.ISO_8859_1));
    }

    static void write(StoryTapestry x, byte[] bytes) {
        byte[] padded = java.util.Arrays.copyOf(bytes, (bytes.length + 19) / 20 * 20);
        for (int i = 0; i < padded.length; i += 20) {
            x.feed(four(padded, i), four(padded, i + 4), four(padded, i + 8), four(padded, i + 12), four(padded, i + 16));
        }
        x.trim(bytes.length);
    }

    private static int four(byte[] bytes, int at) {
        return (bytes[at] & 255) << 24 | (bytes[at + 1] & 255) << 16 | (bytes[at + 2] & 255) << 8 | bytes[at + 3] & 255;
    }

    static int teach(StoryTapestry x, String text) {
        write(x, text);
        return x.teach();
    }

    /** A new tapestry that has been taught the text, which has no error. */
    static StoryTapestry taught(String text) {
        StoryTapestry x = new StoryTapestry();
        same("teach() of " + text, teach(x, text), 0);
        return x;
    }

    /** A new object that is taught the text answers this error, at this place. */
    static void fails(String text, int error, int place) {
        StoryTapestry x = new StoryTapestry();
        same("teach() of " + text, teach(x, text), error);
        same("errorAt() of " + text, x.errorAt(), place);
    }

    static void works(String text) {
        fails(text, 0, -1);
    }

    static void end() {
        System.out.println(checks + " checks, " + wrong + " wrong");
        if (wrong != 0) {
            System.exit(1);
        }
    }
}
