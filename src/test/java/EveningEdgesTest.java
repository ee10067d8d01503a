/**
 * The reckoning of "Terms", the evenings of "2. Claims and liars" and the promises 36 to 41: the sentences that name a boundary
 * case stand over their tests, each of which asks on the boundary, short of it and past it.
 */
public final class EveningEdgesTest {
    /** The least number, the greatest one and those beside them, as sums and as what they are. */
    private static final String LEAST = "(32768*65536)";
    private static final String[] SUMS = {LEAST, "(32768*65536+1)", "-2", "-1", "0", "1", "2", "(32768*65536-2)", "(32768*65536-1)", "999999",
        "-999999", "7", "-7"};
    private static final int[] NUMBERS = {Integer.MIN_VALUE, Integer.MIN_VALUE + 1, -2, -1, 0, 1, 2, Integer.MAX_VALUE - 1, Integer.MAX_VALUE,
        999999, -999999, 7, -7};

    /** Three liars: two of the first three tellers, and the last one, who is contrary. */
    private static final String STORY = Text.events(2) + Text.tellers(4) + "tells t0 e0 at 1; tells t1 e0 at 2; tells t2 e0 at 3;"
            + "tells t3 e1 at 1; tells t3 e1 at 2;";

    public static void main(String[] args) {
        sumsWrapAround();
        cutTowardsZero();
        zeroOnTheRightSide();
        theLeastNumberByMinusOne();
        comparisonsAtTheEdge();
        notAndOr();
        bothSidesAreReckoned();
        countsInTests();
        contradictNamedTwice();
        ordersAsTheirTurnComes();
        carriedOutIfItChanges();
        theEveningIsCountedBehindItsOrders();
        oneToThirtyEvenings();
        thirtyAreThirtyTimesOne();
        liarsBehindOneToThirty();
        untilOneStoryUpToThirty();
        nothingIsChangedByAsking();
        bestToDoubtOfNoneToAll();
        theMeanOfNoneToForty();
        theDigestOfEmptyAndFull();
        Check.end();
    }

    private static String text(int number) {
        for (int n = 0; n < NUMBERS.length; n++) {
            if (NUMBERS[n] == number) {
                return SUMS[n];
            }
        }
        int high = number / 65536;
        int low = number - high * 65536;
        return "(" + high + "*65536+" + low + ")";
    }

    private static boolean holds(String test) {
        StoryTapestry x = Check.taught("event e; teller t; teller u; doubt t when " + test + ";");
        int carriedOut = x.passEvenings(1);
        Check.same("isDoubted(0) when " + test, x.isDoubted(0), carriedOut == 1);
        return carriedOut == 1;
    }

    private static void sum(String sum, int due) {
        Check.yes(sum + " is " + due, holds(sum + "=" + text(due)));
        Check.no(sum + " is beside " + due, holds(sum + "=" + text(due) + "+1"));
    }

    /** "sums, differences and products of the language wrap around in 32 bits" */
    private static void sumsWrapAround() {
        for (int a = 0; a < NUMBERS.length; a++) {
            for (int b = 0; b < NUMBERS.length; b++) {
                sum(SUMS[a] + "+" + SUMS[b], NUMBERS[a] + NUMBERS[b]);
                sum(SUMS[a] + "-" + SUMS[b], NUMBERS[a] - NUMBERS[b]);
                sum(SUMS[a] + "*" + SUMS[b], NUMBERS[a] * NUMBERS[b]);
                sum("min(" + SUMS[a] + "," + SUMS[b] + ")", Math.min(NUMBERS[a], NUMBERS[b]));
                sum("max(" + SUMS[a] + "," + SUMS[b] + ")", Math.max(NUMBERS[a], NUMBERS[b]));
            }
            sum("-" + SUMS[a], -NUMBERS[a]);
            sum("--" + SUMS[a], NUMBERS[a]);
        }
        sum("999999*999999", (int) 999998000001L);
        sum("65535*65537", -1);
        sum("65536*65536", 0);
        sum("32767*65536+65535", Integer.MAX_VALUE);
        sum("32767*65536+65535+1", Integer.MIN_VALUE);
        sum("-32768*65536-1", Integer.MAX_VALUE);
    }

    /** "/ is cut towards 0" */
    private static void cutTowardsZero() {
        int[] sides = {-7, -6, -5, -4, -3, -2, -1, 1, 2, 3, 4, 5, 6, 7};
        for (int a : sides) {
            sum("0/" + a, 0);
            for (int b : sides) {
                int due = 0;
                while ((due + 1) * Math.abs(b) <= Math.abs(a)) {
                    due++;
                }
                sum(a + "/" + b, (a < 0) == (b < 0) ? due : -due);
            }
        }
        sum("999998/999999", 0);
        sum("999999/999999", 1);
        sum("-999998/999999", 0);
        sum("(999999+999998)/999999", 1);
        sum(LEAST + "/2", -1073741824);
        sum("(" + LEAST + "-1)/2", 1073741823);
    }

    /** "gives 0 with 0 on the right side" */
    private static void zeroOnTheRightSide() {
        for (String left : SUMS) {
            sum(left + "/0", 0);
            sum(left + "/(1-1)", 0);
            sum(left + "/-0", 0);
            sum(left + "/evening", 0);
            sum("5+" + left + "/0*" + left, 5);
        }
    }

    /** "and -2147483648 / -1 gives -2147483648" */
    private static void theLeastNumberByMinusOne() {
        sum(LEAST + "/-1", Integer.MIN_VALUE);
        sum("-" + LEAST + "/-1", Integer.MIN_VALUE);
        sum(LEAST + "/1", Integer.MIN_VALUE);
        sum(LEAST + "/-2", 1073741824);
        sum("(" + LEAST + "+1)/-1", Integer.MAX_VALUE);
        sum("(" + LEAST + "-1)/-1", -Integer.MAX_VALUE);
        sum(LEAST + "/" + LEAST, 1);
        sum("1/" + LEAST, 0);
        sum("(" + LEAST + "-1)/" + LEAST, 0);
    }

    private static void comparisonsAtTheEdge() {
        for (int a = 0; a < NUMBERS.length; a++) {
            for (int b = 0; b < NUMBERS.length; b++) {
                String what = SUMS[a] + " and " + SUMS[b] + ": ";
                Check.same(what + "<", holds(SUMS[a] + "<" + SUMS[b]), NUMBERS[a] < NUMBERS[b]);
                Check.same(what + ">", holds(SUMS[a] + ">" + SUMS[b]), NUMBERS[a] > NUMBERS[b]);
                Check.same(what + "=", holds(SUMS[a] + "=" + SUMS[b]), NUMBERS[a] == NUMBERS[b]);
                Check.same(what + "<=", holds(SUMS[a] + "<=" + SUMS[b]), NUMBERS[a] <= NUMBERS[b]);
                Check.same(what + ">=", holds(SUMS[a] + ">=" + SUMS[b]), NUMBERS[a] >= NUMBERS[b]);
            }
        }
    }

    /** "and binds more than or, not more than and": all tests of three parts, with and without a not and brackets. */
    private static void notAndOr() {
        String[] part = {"1=2", "1=1"};
        for (int n = 0; n < 8; n++) {
            boolean a = (n & 1) != 0;
            boolean b = (n & 2) != 0;
            boolean c = (n & 4) != 0;
            String first = part[n & 1];
            String second = part[n >> 1 & 1];
            String third = part[n >> 2];
            Check.same("or, and " + n, holds(first + " or " + second + " and " + third), a || b && c);
            Check.same("and, or " + n, holds(first + " and " + second + " or " + third), a && b || c);
            Check.same("[or], and " + n, holds("[" + first + " or " + second + "] and " + third), (a || b) && c);
            Check.same("and, [or] " + n, holds(first + " and [" + second + " or " + third + "]"), a && (b || c));
            Check.same("not, and " + n, holds("not " + first + " and " + second), !a && b);
            Check.same("not, or " + n, holds("not " + first + " or " + second), !a || b);
            Check.same("and, not " + n, holds(first + " and not " + second), a && !b);
            Check.same("or, not, and " + n, holds(first + " or not " + second + " and " + third), a || !b && c);
            Check.same("not [and] " + n, holds("not [" + first + " and " + second + "]"), !(a && b));
            Check.same("not not " + n, holds("not not " + first), a);
            Check.same("and, and " + n, holds(first + " and " + second + " and " + third), a && b && c);
            Check.same("or, or " + n, holds(first + " or " + second + " or " + third), a || b || c);
        }
    }

    /** "Both sides of and and or are reckoned": nothing on the side that does not matter stops the order. */
    private static void bothSidesAreReckoned() {
        Check.yes("or with a division by 0", holds("1=1 or 1/0=1/0/0"));
        Check.yes("or with a division by 0 ahead", holds("5/0=1 or 1=1"));
        Check.no("and with a division by 0", holds("1=2 and 1/0=0"));
        Check.yes("and with the least number by -1", holds("1/0=0 and " + LEAST + "/-1=" + LEAST));
    }

    /** "claims how many claims a teller has, also a doubted one, window how many hours the window of an event has", and others */
    private static void countsInTests() {
        String start = Text.events(3) + Text.tellers(4) + "tells t0 e0 at 0 to 98; tells t1 e0 at 99; tells t2 e1 at 0 to 99; tells t2 e2 at 99;"
                + "tells t2 e2 at 98 to 99; tells t1 e1 at 5 to 9; tells t1 e1 at 9 to 10;";
        String[] due = {"evening=0", "liars=1", "conflicts=1", "claims of t0=1", "claims of t1=3", "claims of t2=3", "claims of t3=0",
            "window of e0=0", "window of e1=1", "window of e2=1", "not agreed e0", "agreed e1", "agreed e2", "liar t1", "not liar t0",
            "contradict t0 t1", "contradict t1 t0", "not contradict t1 t1", "not doubted t1"};
        String[] doubting = {"liars=0", "conflicts=0", "claims of t1=3", "window of e0=99", "window of e1=100", "window of e2=1", "agreed e0",
            "doubted t1", "not liar t1", "not contradict t0 t1", "not contradict t1 t0"};
        for (String test : due) {
            StoryTapestry x = Check.taught(start + "doubt t3 when " + test + ";");
            Check.same("passEvenings(1) when " + test, x.passEvenings(1), 1);
        }
        for (String test : doubting) {
            boolean already = test.equals("claims of t1=3") || test.equals("window of e2=1");
            StoryTapestry ahead = Check.taught(start + "doubt t3 when " + test + "; doubt t1;");
            Check.same("passEvenings(1) ahead of a doubt, when " + test, ahead.passEvenings(1), already ? 2 : 1);
            StoryTapestry behind = Check.taught(start + "doubt t1; doubt t3 when " + test + ";");
            Check.same("passEvenings(1) behind a doubt, when " + test, behind.passEvenings(1), 2);
        }
        StoryTapestry full = Check.taught(Text.events(1) + Text.tellers(2) + "tells t0 e0 at 3;".repeat(40) + "doubt t1 when claims of t0=40;");
        Check.same("passEvenings(1) of 40 claims", full.passEvenings(1), 1);
        StoryTapestry none = Check.taught(Text.events(1) + Text.tellers(2) + "doubt t1 when window of e0=100 and claims of t0=0;");
        Check.same("passEvenings(1) of no claims", none.passEvenings(1), 1);
    }

    /** "contradict holds for two tellers who contradict each other, or for one who is contrary, named twice" */
    private static void contradictNamedTwice() {
        String start = Text.events(1) + Text.tellers(10) + "tells t9 e0 at 1; tells t9 e0 at 2; tells t0 e0 at 1; tells t8 e0 at 1;";
        boolean[] due = {true, true, true, false, false, false};
        String[] pairs = {"t9 t9", "t9 t0", "t8 t9", "t0 t0", "t0 t8", "t1 t9"};
        for (int n = 0; n < pairs.length; n++) {
            StoryTapestry x = Check.taught(start + "doubt t5 when contradict " + pairs[n] + ";");
            Check.same("passEvenings(1) when contradict " + pairs[n], x.passEvenings(1), due[n] ? 1 : 0);
            x = Check.taught(start + "doubt t9; doubt t5 when contradict " + pairs[n] + ";");
            Check.same("passEvenings(1) when contradict " + pairs[n] + " with t9 doubted", x.passEvenings(1), 1);
        }
    }

    /** "orders, in the order in which they are told, if the test holds as it comes to its turn (or there is none)" */
    private static void ordersAsTheirTurnComes() {
        StringBuilder chain = new StringBuilder(Text.tellers(10) + "doubt t0;");
        StringBuilder back = new StringBuilder(Text.tellers(10));
        for (int n = 1; n < 10; n++) {
            chain.append("doubt t").append(n).append(" when doubted t").append(n - 1).append(";");
            back.append("doubt t").append(10 - n).append(" when doubted t").append(9 - n).append(";");
        }
        StoryTapestry x = Check.taught(chain.toString());
        Check.same("passEvenings(1) of a chain", x.passEvenings(1), 10);
        StoryTapestry y = Check.taught(back + "doubt t0;");
        for (int evening = 1; evening <= 10; evening++) {
            Check.same("passEvenings(1) of a chain turned, " + evening, y.passEvenings(1), 1);
            Check.yes("isDoubted() of one more", y.isDoubted(evening - 1));
        }
        Check.same("passEvenings(1) behind all", y.passEvenings(1), 0);
    }

    /** "Each one that changes something so is carried out." */
    private static void carriedOutIfItChanges() {
        String[] orders = {"believe t0;", "doubt t0;", "doubt t0; doubt t0;", "doubt t0; believe t0;", "believe t0; doubt t0;",
            "doubt t0 when 1=2;", "doubt t0; believe t0 when evening=1;", "doubt t9; doubt t0; believe t9;"};
        int[] first = {0, 1, 1, 2, 1, 0, 1, 3};
        int[] second = {0, 0, 0, 2, 2, 0, 1, 2};
        for (int n = 0; n < orders.length; n++) {
            StoryTapestry x = Check.taught(Text.tellers(10) + orders[n]);
            Check.same("passEvenings(1) of " + orders[n], x.passEvenings(1), first[n]);
            Check.same("ordersCarriedOut() of " + orders[n], x.ordersCarriedOut(), first[n]);
            Check.same("passEvenings(1) again of " + orders[n], x.passEvenings(1), second[n]);
            Check.same("ordersCarriedOut() again of " + orders[n], x.ordersCarriedOut(), first[n] + second[n]);
        }
        StoryTapestry none = Check.taught(Text.tellers(10));
        Check.same("passEvenings(30) without orders", none.passEvenings(30), 0);
        StoryTapestry all = Check.taught(Text.tellers(10) + "doubt t9; believe t9;".repeat(8));
        Check.same("passEvenings(30) of 16 orders", all.passEvenings(30), 480);
    }

    /** "Then the number of evenings is 1 greater." */
    private static void theEveningIsCountedBehindItsOrders() {
        for (int evening = 0; evening < 32; evening++) {
            StoryTapestry x = Check.taught("teller t; doubt t when evening=" + evening + ";");
            for (int n = 0; n < 32; n++) {
                Check.same("passEvenings(1) in the evening " + n + " for " + evening, x.passEvenings(1), n == evening ? 1 : 0);
                Check.same("evenings() behind it", x.evenings(), n + 1);
            }
        }
    }

    /** "IllegalArgumentException if evenings is not 1 to 30" */
    private static void oneToThirtyEvenings() {
        for (int n = -3; n <= 35; n++) {
            StoryTapestry x = Check.taught("teller t; doubt t; believe t;");
            int evenings = n;
            if (n >= 1 && n <= 30) {
                Check.same("liarsAfter(" + n + ")", x.liarsAfter(n), 0);
                Check.same("passEvenings(" + n + ")", x.passEvenings(n), 2 * n);
                Check.same("evenings() behind " + n, x.evenings(), n);
            } else {
                Check.refused(x, "passEvenings(" + n + ")", Check.ARGUMENT, () -> x.passEvenings(evenings));
                Check.refused(x, "liarsAfter(" + n + ")", Check.ARGUMENT, () -> x.liarsAfter(evenings));
                Check.same("evenings() behind " + n, x.evenings(), 0);
            }
        }
    }

    private static void thirtyAreThirtyTimesOne() {
        String orders = "doubt t1 when evening/3*3=evening; believe t1 when evening/4*4=evening; doubt t3 when evening=17; believe t3 when"
                + " evening=29; doubt t0 when liars=2; believe t0 when liars=1;";
        for (int n = 1; n <= 30; n++) {
            StoryTapestry x = Check.taught(STORY + orders);
            StoryTapestry twin = Check.taught(STORY + orders);
            int carriedOut = 0;
            for (int evening = 0; evening < n; evening++) {
                carriedOut += twin.passEvenings(1);
            }
            Check.same("liarsAfter(" + n + ")", x.liarsAfter(n), twin.liars());
            Check.same("passEvenings(" + n + ")", x.passEvenings(n), carriedOut);
            Answers.same("answers behind " + n, x, twin);
        }
    }

    /** "Returns how many liars there are behind them, if nothing is done by hand" */
    private static void liarsBehindOneToThirty() {
        StoryTapestry x = Check.taught(STORY + "doubt t3 when evening=0; doubt t1 when evening=28; doubt t2 when evening=29; believe t1 when"
                + " evening=30;");
        int[][] due = {{1, 2}, {2, 2}, {28, 2}, {29, 1}, {30, 0}};
        Check.same("liars() now", x.liars(), 3);
        for (int[] pair : due) {
            Check.same("liarsAfter(" + pair[0] + ")", x.liarsAfter(pair[0]), pair[1]);
            Check.same("liars() still", x.liars(), 3);
            Check.same("evenings() still", x.evenings(), 0);
        }
        x.passEvenings(1);
        Check.same("liarsAfter(30) an evening later", x.liarsAfter(30), 1);
        x.turnDoubt(3);
        Check.same("liarsAfter(30) behind a belief by hand", x.liarsAfter(30), 2);
    }

    /** "0 if there are none now, at most 30; -1 if not by then" */
    private static void untilOneStoryUpToThirty() {
        for (int evening = 0; evening <= 32; evening++) {
            StoryTapestry x = Check.taught(STORY + "doubt t3; doubt t2 when evening=1; doubt t1 when evening=" + evening + ";"
                    + "believe t1 when evening=" + (evening + 1) + ";");
            int due = Math.max(2, evening + 1);
            if (evening == 0) {
                due = -1;
            }
            Check.same("eveningsUntilOneStory() by the evening " + evening, x.eveningsUntilOneStory(), due <= 30 ? due : -1);
            Check.same("evenings() still", x.evenings(), 0);
            x.passEvenings(1);
            Check.same("eveningsUntilOneStory() an evening later", x.eveningsUntilOneStory(), due <= 31 && due > 0 ? due - 1 : -1);
        }
        StoryTapestry x = Check.taught(STORY + "believe t0; believe t1; believe t2; believe t3;");
        Check.same("eveningsUntilOneStory() never", x.eveningsUntilOneStory(), -1);
        x.turnDoubt(3);
        x.turnDoubt(2);
        Check.same("eveningsUntilOneStory() with liars", x.eveningsUntilOneStory(), -1);
        x.turnDoubt(1);
        Check.same("eveningsUntilOneStory() now, though not by the next evening", x.eveningsUntilOneStory(), 0);
        Check.same("eveningsUntilOneStory() without tellers", Check.taught("event e;").eveningsUntilOneStory(), 0);
    }

    /** "(nothing is changed)" */
    private static void nothingIsChangedByAsking() {
        String text = STORY + "doubt t1 when evening/2*2=evening; believe t1; doubt t3 when evening=5; believe t0;";
        StoryTapestry x = Check.taught(text);
        StoryTapestry twin = Check.taught(text);
        for (int round = 0; round < 3; round++) {
            for (int n = 1; n <= 30; n++) {
                x.liarsAfter(n);
            }
            x.eveningsUntilOneStory();
            x.bestToDoubt();
            x.meanClaims();
            Answers.same("answers behind asking in the round " + round, x, twin);
            Check.same("passEvenings(2)", x.passEvenings(2), twin.passEvenings(2));
            x.turnDoubt(2);
            twin.turnDoubt(2);
        }
    }

    /** "of several the smallest number; -1 if by none there would be fewer pairs than now" */
    private static void bestToDoubtOfNoneToAll() {
        StoryTapestry x = Text.told(2, 10);
        Check.same("bestToDoubt() without claims", x.bestToDoubt(), -1);
        x.claimHours(4, 1, 1, 1);
        x.claimHours(4, 1, 2, 2);
        Check.same("bestToDoubt() of one who is contrary", x.bestToDoubt(), -1);
        x.claimHours(9, 0, 0, 9);
        x.claimHours(8, 0, 10, 19);
        Check.same("bestToDoubt() of the last two", x.bestToDoubt(), 8);
        x.claimHours(7, 0, 0, 9);
        Check.same("bestToDoubt() of one against two", x.bestToDoubt(), 8);
        x.claimHours(6, 0, 10, 19);
        Check.same("bestToDoubt() of two against two", x.bestToDoubt(), 6);
        x.claimHours(5, 0, 10, 19);
        Check.same("bestToDoubt() of three against two", x.bestToDoubt(), 7);
        x.turnDoubt(7);
        Check.same("bestToDoubt() of three against one", x.bestToDoubt(), 9);
        x.turnDoubt(9);
        Check.same("bestToDoubt() of three who agree", x.bestToDoubt(), -1);
        for (int teller = 0; teller < 10; teller++) {
            if (teller != 7 && teller != 9) {
                x.turnDoubt(teller);
            }
        }
        Check.same("bestToDoubt() of all doubted", x.bestToDoubt(), -1);
        for (int a = 0; a < 10; a++) {
            for (int b = a + 1; b < 10; b++) {
                StoryTapestry pair = Text.told(1, 10);
                pair.claimHours(b, 0, 1, 1);
                pair.claimHours(a, 0, 2, 2);
                Check.same("bestToDoubt() of " + a + " and " + b, pair.bestToDoubt(), a);
            }
        }
    }

    /** "the mean number of claims of tellers; 0 without any" */
    private static void theMeanOfNoneToForty() {
        Check.same("meanClaims() without tellers", Check.taught(Text.events(8)).meanClaims(), 0.0);
        for (int tellers = 1; tellers <= 10; tellers++) {
            StoryTapestry x = Text.told(1, tellers);
            Check.same("meanClaims() without claims of " + tellers, x.meanClaims(), 0.0);
            for (int claims = 1; claims <= 40; claims++) {
                x.claimHours(claims % tellers, 0, 0, 99);
                Check.same("meanClaims() of " + claims + " and " + tellers, x.meanClaims(), (double) claims / tellers);
            }
            x.turnDoubt(0);
            Check.same("meanClaims() with one doubted", x.meanClaims(), 40.0 / tellers);
        }
    }

    /** "A number d starts with 991; [..] d becomes d * 31 + x, which wraps around as a 64-bit integer" */
    private static void theDigestOfEmptyAndFull() {
        long empty = 991;
        long[] first = {0, 0, 0, 0, 0, 0, 0, 1, 1};
        for (long number : first) {
            empty = empty * 31 + number;
        }
        Check.same("digest() of a new object", new StoryTapestry().digest(), empty);
        long one = 991;
        long[] numbers = {1, 1, 1, 0, 0, 0, 0, 1, 1, 0, 0, 0, 1, 0, 0, 0, 1, 7, 9, 0};
        for (long number : numbers) {
            one = one * 31 + number;
        }
        StoryTapestry x = Check.taught("event e; teller t; tells t e at 7 to 9;");
        Check.same("digest() of one of each", x.digest(), one);
        x.claimHours(0, 0, 5, 6);
        long none = 991;
        long[] contrary = {1, 1, 2, 0, 0, 0, 1, 1, 1, 0, 0, 0, 0, 0, 0, 2, 0, 1, 1, 0, -1, -1, 0};
        for (long number : contrary) {
            none = none * 31 + number;
        }
        Check.same("digest() without a window", x.digest(), none);
        StoryTapestry full = Check.taught(Text.events(8) + Text.tellers(10) + "doubt t3; believe t3 when evening=9; doubt t0;");
        for (int n = 0; n < 40; n++) {
            if (n % 3 == 0) {
                full.claimHours(n % 10, n % 8, n, n);
            } else {
                full.claimBefore(n % 10, n % 8, (n + 1) % 8);
            }
        }
        full.passEvenings(9);
        Check.yes("contradictions() of a full one", full.contradictions() > 0);
        Check.same("digest() of a full one", full.digest(), EveningsTest.digestOf(full));
    }
}
