/** Promises 36 to 41: evenings, what would be, the mean and the digest. */
public final class EveningsTest {
    private static final String HEAD = "event e; event f; teller s; teller t; teller u; teller z;"
            + "tells s e at 3 to 9; tells t e at 5 to 20; tells u f at 1; tells u f at 2; tells s e before f; tells t f before e;";
    private static final int[] NO_EVENINGS = {0, 31, -1, Integer.MAX_VALUE, Integer.MIN_VALUE};

    public static void main(String[] args) {
        arithmetic();
        precedence();
        comparisons();
        facts();
        factsChangeWithDoubts();
        evenings();
        ordersByTurns();
        ordersWithoutTests();
        carriedOut();
        eveningsAreRefused();
        liarsAfter();
        untilOneStory();
        nothingIsChanged();
        bestToDoubt();
        meanClaims();
        digest();
        Check.end();
    }

    private static void holds(String test, boolean due) {
        StoryTapestry x = Check.taught(HEAD + "doubt z when " + test + ";");
        Check.same("passEvenings(1) when " + test, x.passEvenings(1), due ? 1 : 0);
        Check.same("isDoubted(3) when " + test, x.isDoubted(3), due);
    }

    private static void sum(String sum, int due) {
        String number = due == Integer.MIN_VALUE ? "-2 * 32768 * 32768" : due < 0 ? "-" + big(-due) : big(due);
        holds(sum + " = " + number, true);
        holds(sum + " = 1 + " + number, false);
    }

    private static String big(int number) {
        return "(" + number / 65536 + " * 65536 + " + number % 65536 + ")";
    }

    private static void arithmetic() {
        sum("1 + 2", 3);
        sum("1 - 2", -1);
        sum("3 * 4", 12);
        sum("7 / 2", 3);
        sum("-7 / 2", -3);
        sum("7 / -2", -3);
        sum("-7 / -2", 3);
        sum("7 / 0", 0);
        sum("0 / 0", 0);
        sum("7 / (1 - 1)", 0);
        sum("999999 * 999999", 999999 * 999999);
        sum("65536 * 32768", Integer.MIN_VALUE);
        sum("65536 * 65536", 0);
        sum("-65536 * 32768", Integer.MIN_VALUE);
        sum("-(65536 * 32768)", Integer.MIN_VALUE);
        sum("65536 * 32768 / -1", Integer.MIN_VALUE);
        sum("65536 * 32768 - 1", Integer.MAX_VALUE);
        sum("65536 * 32768 - 1 + 1", Integer.MIN_VALUE);
        sum("--5", 5);
        sum("-(-5)", 5);
        sum("---5", -5);
        sum("min(3, 5)", 3);
        sum("min(5, 3)", 3);
        sum("max(3, 5)", 5);
        sum("max(5, 3)", 5);
        sum("min(-3, 2)", -3);
        sum("max(-3, -2)", -2);
        sum("min(4, 4) + max(4, 4)", 8);
        sum("min(1 + 1, 2 * 3) * max(min(7, 8), 6)", 14);
        sum("000012", 12);
        sum("999999", 999999);
    }

    private static void precedence() {
        sum("1 + 2 * 3", 7);
        sum("(1 + 2) * 3", 9);
        sum("10 - 3 - 2", 5);
        sum("10 - (3 - 2)", 9);
        sum("20 / 2 / 5", 2);
        sum("20 / (2 / 5)", 0);
        sum("7 / 2 * 2", 6);
        sum("7 * 2 / 4", 3);
        sum("2 * 3 + 4 * 5 - 6 / 2", 23);
        sum("-2 + 5", 3);
        sum("-2 * 3", -6);
        sum("5 - -2", 7);
        sum("-7 / 2 + 1", -2);
        sum("10 - 2 + 3", 11);
        String yes = "1 = 1";
        String no = "1 = 2";
        holds(yes + " and " + yes, true);
        holds(yes + " and " + no, false);
        holds(no + " and " + yes, false);
        holds(no + " and " + no, false);
        holds(yes + " or " + yes, true);
        holds(yes + " or " + no, true);
        holds(no + " or " + yes, true);
        holds(no + " or " + no, false);
        holds(yes + " or " + yes + " and " + no, true);
        holds("[" + yes + " or " + yes + "] and " + no, false);
        holds(no + " and " + no + " or " + yes, true);
        holds(no + " and [" + no + " or " + yes + "]", false);
        holds("not " + yes, false);
        holds("not " + no, true);
        holds("not not " + yes, true);
        holds("not " + no + " and " + no, false);
        holds("not [" + no + " and " + no + "]", true);
        holds("not " + yes + " or " + yes, true);
        holds("not [" + yes + " or " + yes + "]", false);
        holds("not doubted z and 1 + 1 = 2 or liar z", true);
        holds("[[[" + yes + "]]]", true);
    }

    private static void comparisons() {
        String[] signs = {"<", ">", "=", "<=", ">="};
        boolean[][] due = {{true, false, false}, {false, false, true}, {false, true, false}, {true, true, false}, {false, true, true}};
        for (int n = 0; n < signs.length; n++) {
            for (int side = -1; side <= 1; side++) {
                holds(5 + side + signs[n] + "5", due[n][side + 1]);
                holds("-" + (5 - side) + signs[n] + " -5", due[n][side + 1]);
            }
        }
        holds("65536 * 32768 < 0", true);
        holds("65536 * 32768 - 1 > 0", true);
        holds("65536 * 32768 < 65536 * 32768 - 1", true);
    }

    private static void facts() {
        sum("evening", 0);
        sum("conflicts", 1);
        sum("liars", 2);
        sum("claims of s", 2);
        sum("claims of z", 0);
        sum("window of e", 5);
        sum("window of f", 0);
        holds("contradict s t", true);
        holds("contradict t s", true);
        holds("contradict s u", false);
        holds("contradict s s", false);
        holds("contradict u u", true);
        holds("contradict z z", false);
        holds("liar s", false);
        holds("liar t", true);
        holds("liar u", true);
        holds("liar z", false);
        holds("doubted t", false);
        holds("agreed e", true);
        holds("agreed f", false);
        StoryTapestry hour = Check.taught("event e; teller t; teller u; tells t e at 3 to 5; tells u e at 5 to 9; doubt u when agreed e;");
        Check.same("passEvenings(1) with a window of one hour", hour.passEvenings(1), 1);
        StoryTapestry last = Check.taught("event a; event b; event c; event d; event g; event h; event i; event j;"
                + "teller t0; teller t1; teller t2; teller t3; teller t4; teller t5; teller t6; teller t7; teller t8; teller t9;"
                + "tells t9 j at 4 to 6; tells t8 j at 7; tells t9 i at 4 to 6;"
                + "doubt t0 when contradict t9 t8 and contradict t8 t9 and not contradict t9 t9;"
                + "doubt t1 when liar t9 and claims of t9 = 2 and window of i = 3; doubt t2 when agreed j or not agreed i;");
        Check.same("passEvenings(1) of the last ones", last.passEvenings(1), 2);
        Check.yes("isDoubted(0) of the last ones", last.isDoubted(0));
        Check.yes("isDoubted(1) of the last ones", last.isDoubted(1));
    }

    private static void factsChangeWithDoubts() {
        String[] tests = {"liars = 0", "conflicts = 0", "claims of u = 2 and claims of t = 2", "window of e = 7", "window of f = 100",
            "agreed f", "doubted t", "doubted u", "not contradict s t", "not contradict u u", "not liar t", "not liar u"};
        for (String test : tests) {
            StoryTapestry x = Check.taught(HEAD + "doubt t; doubt u; doubt z when " + test + ";");
            Check.same("passEvenings(1) when " + test, x.passEvenings(1), 3);
        }
    }

    private static void evenings() {
        StoryTapestry x = Check.taught(HEAD + "doubt z when evening = 2; believe z when evening = 31;");
        Check.same("passEvenings(2)", x.passEvenings(2), 0);
        Check.no("isDoubted(3) behind 2", x.isDoubted(3));
        Check.same("passEvenings(1)", x.passEvenings(1), 1);
        Check.yes("isDoubted(3) behind 3", x.isDoubted(3));
        Check.same("evenings()", x.evenings(), 3);
        Check.same("passEvenings(28)", x.passEvenings(28), 0);
        Check.same("passEvenings(30)", x.passEvenings(30), 1);
        Check.same("evenings() behind it", x.evenings(), 61);
        Check.same("ordersCarriedOut()", x.ordersCarriedOut(), 2);
        Check.no("isDoubted(3) behind 61", x.isDoubted(3));
    }

    private static void ordersByTurns() {
        StoryTapestry x = Check.taught(HEAD + "doubt s when doubted t; doubt t when not doubted s; doubt u when doubted t;"
                + "believe t when doubted u; doubt z when doubted t;");
        Check.same("passEvenings(1)", x.passEvenings(1), 3);
        Check.no("isDoubted(0)", x.isDoubted(0));
        Check.no("isDoubted(1)", x.isDoubted(1));
        Check.yes("isDoubted(2)", x.isDoubted(2));
        Check.no("isDoubted(3)", x.isDoubted(3));
        StoryTapestry all = Check.taught(HEAD + "doubt s; believe s; ".repeat(8));
        Check.same("passEvenings(30) of 16 orders", all.passEvenings(30), 480);
        Check.same("ordersCarriedOut() of 16 orders", all.ordersCarriedOut(), 480);
        StoryTapestry same = Check.taught(HEAD + "doubt z when evening = 0; doubt s when evening = 0; believe z; doubt t;");
        Check.same("passEvenings(1) of tests of several orders", same.passEvenings(1), 4);
        Check.no("isDoubted(3) behind them", same.isDoubted(3));
        Check.yes("isDoubted(0) behind them", same.isDoubted(0));
    }

    private static void ordersWithoutTests() {
        for (int free = 0; free < 16; free++) {
            StringBuilder text = new StringBuilder(HEAD);
            for (int n = 0; n < 16; n++) {
                text.append(n == free ? "doubt z; " : "doubt s when 1 = 2; ");
            }
            StoryTapestry x = Check.taught(text.toString());
            Check.same("passEvenings(1) with the free order " + free, x.passEvenings(1), 1);
            Check.yes("isDoubted(3) with the free order " + free, x.isDoubted(3));
            Check.same("teach() of a free order alone", Check.teach(x, "teller t; doubt t;"), 0);
            Check.same("passEvenings(1) of a free order alone", x.passEvenings(1), 1);
        }
        StoryTapestry x = new StoryTapestry();
        String sum = "1" + " + 1".repeat(90);
        for (int n = 0; n < 6; n++) {
            String text = "teller t; teller u; doubt u when 1 = 2; doubt t when " + sum + " = " + (91 - n % 2) + ";";
            Check.same("teach() of a long sum", Check.teach(x, text), 0);
            Check.same("passEvenings(1) of a long sum", x.passEvenings(1), 1 - n % 2);
        }
    }

    private static void carriedOut() {
        StoryTapestry x = Check.taught(HEAD + "doubt s; doubt s; believe t; believe u when 1 = 1; doubt u when 1 = 2;");
        Check.same("passEvenings(5), one changes something", x.passEvenings(5), 1);
        x.turnDoubt(1);
        x.turnDoubt(0);
        Check.same("ordersCarriedOut() behind doubts by hand", x.ordersCarriedOut(), 1);
        Check.same("passEvenings(1) behind them", x.passEvenings(1), 2);
        Check.same("ordersCarriedOut()", x.ordersCarriedOut(), 3);
        Check.same("passEvenings(1) again", x.passEvenings(1), 0);
    }

    private static void eveningsAreRefused() {
        StoryTapestry x = Check.taught(HEAD + "doubt s; believe s;");
        for (int evenings : NO_EVENINGS) {
            Check.refused(x, "passEvenings(" + evenings + ")", Check.ARGUMENT, () -> x.passEvenings(evenings));
            Check.refused(x, "liarsAfter(" + evenings + ")", Check.ARGUMENT, () -> x.liarsAfter(evenings));
        }
        Check.same("evenings()", x.evenings(), 0);
        Check.same("passEvenings(30)", x.passEvenings(30), 60);
    }

    private static void liarsAfter() {
        StoryTapestry x = Check.taught(HEAD + "doubt t when evening = 1; doubt u when evening = 3; believe t when evening = 29;");
        int[] due = {2, 1, 1, 0, 0};
        for (int n = 1; n <= 5; n++) {
            Check.same("liarsAfter(" + n + ")", x.liarsAfter(n), due[n - 1]);
        }
        Check.same("liarsAfter(29)", x.liarsAfter(29), 0);
        Check.same("liarsAfter(30)", x.liarsAfter(30), 1);
        x.passEvenings(3);
        Check.same("liarsAfter(1) behind 3", x.liarsAfter(1), 0);
        Check.same("liarsAfter(27) behind 3", x.liarsAfter(27), 1);
    }

    private static void untilOneStory() {
        StoryTapestry x = Check.taught(HEAD + "doubt t when evening = 1; doubt u when evening = 3; believe t when evening = 4;");
        Check.same("eveningsUntilOneStory()", x.eveningsUntilOneStory(), 4);
        x.passEvenings(2);
        Check.same("eveningsUntilOneStory() behind 2", x.eveningsUntilOneStory(), 2);
        x.passEvenings(2);
        Check.same("eveningsUntilOneStory() behind 4", x.eveningsUntilOneStory(), 0);
        x.passEvenings(1);
        Check.same("eveningsUntilOneStory() behind 5", x.eveningsUntilOneStory(), -1);
        StoryTapestry edge = Check.taught(HEAD + "doubt t when evening = 0; doubt u when evening = 29;");
        Check.same("eveningsUntilOneStory() at 30", edge.eveningsUntilOneStory(), 30);
        StoryTapestry late = Check.taught(HEAD + "doubt t when evening = 0; doubt u when evening = 30;");
        Check.same("eveningsUntilOneStory() at 31", late.eveningsUntilOneStory(), -1);
        late.passEvenings(1);
        Check.same("eveningsUntilOneStory() at 31, behind 1", late.eveningsUntilOneStory(), 30);
        StoryTapestry never = Check.taught(HEAD);
        Check.same("eveningsUntilOneStory() without orders", never.eveningsUntilOneStory(), -1);
        StoryTapestry now = Check.taught("teller t; event e; tells t e at 3; doubt t;");
        Check.same("eveningsUntilOneStory() now", now.eveningsUntilOneStory(), 0);
    }

    private static void nothingIsChanged() {
        StoryTapestry x = Check.taught(HEAD + "doubt s when evening / 2 * 2 = evening; believe s; doubt u when evening = 4;");
        x.passEvenings(2);
        long before = x.digest();
        x.liarsAfter(7);
        Check.same("digest() behind liarsAfter", x.digest(), before);
        x.eveningsUntilOneStory();
        Check.same("digest() behind eveningsUntilOneStory", x.digest(), before);
        x.bestToDoubt();
        Check.same("digest() behind bestToDoubt", x.digest(), before);
        x.meanClaims();
        Check.same("digest() behind meanClaims", x.digest(), before);
        Check.same("evenings()", x.evenings(), 2);
        Check.same("ordersCarriedOut()", x.ordersCarriedOut(), 2);
        Check.same("passEvenings(3)", x.passEvenings(3), 5);
    }

    private static void bestToDoubt() {
        String six = "event e; teller t0; teller t1; teller t2; teller t3; teller t4; teller t5;";
        Check.same("bestToDoubt() without contradictions", Check.taught(six).bestToDoubt(), -1);
        Check.same("bestToDoubt() without tellers", Check.taught("event e;").bestToDoubt(), -1);
        Check.same("bestToDoubt() of a contrary one alone", Check.taught(six + "tells t2 e at 1; tells t2 e at 2;").bestToDoubt(), -1);
        StoryTapestry pair = Check.taught(six + "tells t3 e at 1; tells t2 e at 2;");
        Check.same("bestToDoubt() of a pair", pair.bestToDoubt(), 2);
        pair.turnDoubt(3);
        Check.same("bestToDoubt() behind a doubt", pair.bestToDoubt(), -1);
        StoryTapestry star = Check.taught(six + "tells t0 e at 1 to 3; tells t1 e at 2 to 3; tells t5 e at 1 to 2; tells t4 e at 3 to 4;"
                + "tells t3 e at 3;");
        Check.same("contradictions() around 5", star.contradictions(), 2);
        Check.same("bestToDoubt() around 5", star.bestToDoubt(), 5);
        star.turnDoubt(5);
        Check.same("bestToDoubt() behind 5", star.bestToDoubt(), -1);
        StoryTapestry two = Check.taught(six + "tells t0 e at 1; tells t1 e at 2; tells t2 e at 2; tells t3 e at 1; tells t4 e at 2;");
        Check.same("contradictions() of two sides", two.contradictions(), 6);
        Check.same("bestToDoubt() of two sides", two.bestToDoubt(), 0);
        two.turnDoubt(0);
        Check.same("bestToDoubt() behind 0", two.bestToDoubt(), 3);
        two.turnDoubt(0);
        two.turnDoubt(1);
        Check.same("bestToDoubt() behind 1", two.bestToDoubt(), 0);
    }

    private static void meanClaims() {
        Check.same("meanClaims() without tellers", Check.taught("event e;").meanClaims(), 0.0);
        Check.same("meanClaims() without claims", Check.taught("event e; teller t;").meanClaims(), 0.0);
        StoryTapestry x = Check.taught("event e; teller t; teller u; teller v; tells t e at 1;");
        Check.same("meanClaims() of 1 and 3", x.meanClaims(), 1.0 / 3.0);
        x.claimHours(1, 0, 1, 2);
        Check.same("meanClaims() of 2 and 3", x.meanClaims(), 2.0 / 3.0);
        x.turnDoubt(0);
        Check.same("meanClaims() of a doubted one", x.meanClaims(), 2.0 / 3.0);
        x.takeBack(0);
        Check.same("meanClaims() of 1 and 3 again", x.meanClaims(), 1.0 / 3.0);
        Check.same("meanClaims() of 7 and 1", Check.taught("event e; teller t;" + "tells t e at 1;".repeat(7)).meanClaims(), 7.0);
    }

    /** The digest out of what the other methods answer. */
    static long digestOf(StoryTapestry x) {
        long d = 991;
        long[] first = {x.events(), x.tellers(), x.claims(), x.evenings(), x.ordersCarriedOut(), x.contradictions(), x.liars(),
            x.smallestSets(), x.hasOrder() ? 1 : 0};
        for (long number : first) {
            d = d * 31 + number;
        }
        int claims = x.claims();
        int tellers = x.tellers();
        int events = x.events();
        boolean ordered = x.hasOrder();
        for (int n = 0; n < claims; n++) {
            d = ((d * 31 + x.tellerOf(n)) * 31 + x.kindOf(n)) * 31 + x.eventOf(n);
        }
        for (int n = 0; n < tellers; n++) {
            d = ((d * 31 + x.claimsOf(n)) * 31 + (x.isDoubted(n) ? 1 : 0)) * 31 + (x.isLiar(n) ? 1 : 0);
            for (int other = 0; other < tellers; other++) {
                d = d * 31 + (x.doContradict(n, other) ? 1 : 0);
            }
        }
        for (int n = 0; n < events; n++) {
            boolean agreed = x.isAgreed(n);
            d = d * 31 + (agreed ? 1 : 0);
            d = d * 31 + (agreed ? x.windowFrom(n) : -1);
            d = d * 31 + (agreed ? x.windowTo(n) : -1);
            d = d * 31 + (ordered ? x.eventAt(n) : -1);
        }
        return d;
    }

    private static void digest() {
        StoryTapestry none = new StoryTapestry();
        Check.same("digest() of a new object", none.digest(), digestOf(none));
        Check.same("digest() of a new object, reckoned by hand", none.digest(), 991L * 26439622160671L + 31 + 1);
        StoryTapestry x = Check.taught(HEAD + "doubt s when evening = 1; believe s when evening = 3; doubt u when liar u;");
        for (int n = 0; n < 5; n++) {
            Check.same("digest() behind " + n, x.digest(), digestOf(x));
            x.passEvenings(1);
        }
        StoryTapestry ring = Check.taught("event a; event b; event c; teller q; teller r; tells q a before b; tells q b before c;"
                + "tells r c before a; tells q a at 3; tells r a at 4; tells r b at 7 to 9;");
        ring.turnDoubt(1);
        Check.same("digest() with an order", ring.digest(), digestOf(ring));
        ring.turnDoubt(1);
        Check.same("digest() with a liar", ring.digest(), digestOf(ring));
        ring.takeBack(4);
        Check.no("hasOrder() of the ring", ring.hasOrder());
        Check.same("digest() without an order", ring.digest(), digestOf(ring));
    }
}
