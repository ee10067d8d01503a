/** Promises 1, 2, 3 and what 4 and 5 say of the tape. */
public final class TapeTest {
    public static void main(String[] args) {
        newObject();
        feedAnswersTheLength();
        bytesStandHighestFirst();
        feedIsRefusedBeyondTheTape();
        feedAtTheVeryEdge();
        trimKeepsTheFirstBytes();
        trimIsRefused();
        nothingIsReadBeyondTheLength();
        teachEmptiesTheTape();
        Check.end();
    }

    private static void newObject() {
        StoryTapestry x = new StoryTapestry();
        Check.same("errorAt() of a new object", x.errorAt(), -1);
        Check.same("events() of a new object", x.events(), 0);
        Check.same("tellers() of a new object", x.tellers(), 0);
        Check.same("claims() of a new object", x.claims(), 0);
        Check.same("evenings() of a new object", x.evenings(), 0);
        Check.same("ordersCarriedOut() of a new object", x.ordersCarriedOut(), 0);
        Check.same("contradictions() of a new object", x.contradictions(), 0);
        Check.same("liars() of a new object", x.liars(), 0);
        Check.same("smallestSets() of a new object", x.smallestSets(), 1);
        Check.yes("hasOrder() of a new object", x.hasOrder());
        Check.same("eveningsUntilOneStory() of a new object", x.eveningsUntilOneStory(), 0);
        Check.same("bestToDoubt() of a new object", x.bestToDoubt(), -1);
        Check.same("meanClaims() of a new object", x.meanClaims(), 0.0);
        Check.same("liarsAfter(30) of a new object", x.liarsAfter(30), 0);
        Check.same("passEvenings(30) of a new object", x.passEvenings(30), 0);
        Check.same("evenings() behind them", x.evenings(), 30);
        Check.same("trim(0) of a new object", x.trim(0), 0);
        StoryTapestry y = new StoryTapestry();
        Check.refused(y, "trim(1) of a new object", Check.ARGUMENT, () -> y.trim(1));
        Check.same("teach() of a new object", y.teach(), 0);
    }

    private static void feedAnswersTheLength() {
        StoryTapestry x = new StoryTapestry();
        for (int n = 1; n <= 100; n++) {
            Check.same("feed " + n, x.feed(-1, Integer.MIN_VALUE, 0, 7, Integer.MAX_VALUE), n * 20);
        }
    }

    private static void bytesStandHighestFirst() {
        StoryTapestry x = new StoryTapestry();
        x.feed(0x6576656E, 0x74206162, 0x63646566, 0x6768696A, 0x3B202020);
        Check.same("teach() of event abcdefghij;", x.teach(), 0);
        Check.same("events()", x.events(), 1);
        x.feed(0x6576656E, 0x74206162, 0x63646566, 0x6768696A, 0x3BFF2020);
        Check.same("teach() with a byte 255 behind", x.teach(), 1);
        Check.same("errorAt() of the byte 255", x.errorAt(), 17);
        int[] blanks = {0x20202020, 0x20202020, 0x20202020, 0x20202020, 0x20202020};
        for (int i = 0; i < 20; i++) {
            int[] five = blanks.clone();
            five[i / 4] ^= 0xA0 << 24 - i % 4 * 8;
            x.feed(five[0], five[1], five[2], five[3], five[4]);
            Check.same("teach() with a byte 128 at " + i, x.teach(), 1);
            Check.same("errorAt() with a byte 128 at " + i, x.errorAt(), i);
        }
    }

    private static void feedIsRefusedBeyondTheTape() {
        StoryTapestry x = new StoryTapestry();
        for (int n = 0; n < 100; n++) {
            x.feed(0x20202020, 0x20202020, 0x20202020, 0x20202020, 0x20202020);
        }
        Check.refused(x, "feed at 2000 bytes", Check.STATE, () -> x.feed(0, 0, 0, 0, 0));
        Check.same("trim(2000) behind it", x.trim(2000), 2000);
        Check.same("teach() of 2000 blanks", x.teach(), 0);
        Check.same("errorAt()", x.errorAt(), -1);
    }

    private static void feedAtTheVeryEdge() {
        StoryTapestry x = new StoryTapestry();
        for (int n = 0; n < 100; n++) {
            x.feed(0x20202020, 0x20202020, 0x20202020, 0x20202020, 0x20202020);
        }
        x.trim(1981);
        Check.refused(x, "feed at 1981 bytes", Check.STATE, () -> x.feed(0, 0, 0, 0, 0));
        x.trim(1980);
        Check.same("feed at 1980 bytes", x.feed(0x20202020, 0x20202020, 0x20202020, 0x20202020, 0x20202021), 2000);
        Check.same("teach() of it", x.teach(), 1);
        Check.same("errorAt() of its last byte", x.errorAt(), 1999);
    }

    private static void trimKeepsTheFirstBytes() {
        StoryTapestry x = new StoryTapestry();
        Check.write(x, "event a;event b;!!!!");
        Check.same("trim(20)", x.trim(20), 20);
        Check.same("trim(16)", x.trim(16), 16);
        Check.same("feed behind it", x.feed(0x20202020, 0x20202020, 0x20202020, 0x20202020, 0x20202020), 36);
        Check.same("teach()", x.teach(), 0);
        Check.same("events()", x.events(), 2);
        Check.write(x, "event a;event b;");
        Check.same("trim(15)", x.trim(15), 15);
        Check.same("teach() of a shorter tape", x.teach(), 1);
        Check.same("errorAt() at its length", x.errorAt(), 15);
        Check.write(x, "!!!!");
        Check.same("trim(0)", x.trim(0), 0);
        Check.same("teach() of an empty tape", x.teach(), 0);
        Check.same("events() behind it", x.events(), 0);
    }

    private static void trimIsRefused() {
        StoryTapestry x = new StoryTapestry();
        Check.write(x, "event a;");
        int[] wrong = {9, 20, -1, 2000, Integer.MAX_VALUE, Integer.MIN_VALUE};
        for (int n : wrong) {
            Check.refused(x, "trim(" + n + ") of 8 bytes", Check.ARGUMENT, () -> x.trim(n));
        }
        Check.same("trim(8) behind it", x.trim(8), 8);
        Check.same("teach()", x.teach(), 0);
        Check.same("events()", x.events(), 1);
    }

    private static void nothingIsReadBeyondTheLength() {
        String start = "event e; teller t; tells t e at 12 to 34; doubt t when 1 <= liars ;    ";
        for (int length = 0; length < start.length(); length++) {
            StoryTapestry x = new StoryTapestry();
            StoryTapestry y = new StoryTapestry();
            Check.write(x, start);
            x.trim(length);
            Check.write(y, start.substring(0, length));
            String what = " of " + start.substring(0, length);
            Check.same("teach()" + what, x.teach(), y.teach());
            Check.same("errorAt()" + what, x.errorAt(), y.errorAt());
            Check.same("digest()" + what, x.digest(), y.digest());
        }
    }

    private static void teachEmptiesTheTape() {
        StoryTapestry x = new StoryTapestry();
        Check.same("teach()", Check.teach(x, "event a;"), 0);
        Check.refused(x, "trim(1) behind teach()", Check.ARGUMENT, () -> x.trim(1));
        Check.same("teach() with an error", Check.teach(x, "event a;event a;"), 2);
        Check.refused(x, "trim(1) behind teach() with an error", Check.ARGUMENT, () -> x.trim(1));
        Check.same("feed behind it", x.feed(0x20202020, 0x20202020, 0x20202020, 0x20202020, 0x20202020), 20);
        Check.same("errorAt() behind feed", x.errorAt(), 14);
        Check.same("trim(0)", x.trim(0), 0);
        Check.same("errorAt() behind trim", x.errorAt(), 14);
    }
}
