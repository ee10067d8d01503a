/**
 * "A method that throws an exception changes nothing. If several exceptions apply, the one that is named first is thrown."
 * Every method that throws, for each of its reasons, on objects that are new, told, full and at odds: a twin that was
 * not called so has to answer the same behind it, also with its tape, its orders and its evenings.
 */
public final class RefusalsTest {
    private interface Act {
        Object on(StoryTapestry x);
    }

    /** What the tape holds at the end of each situation, unread. */
    private static final String UNREAD = "event y; teller z; tells z y at 7; doubt z;";

    private static final String[] SITUATIONS = {"new", "told", "full", "at odds"};
    private static final int[] TAPE = {0, 43, 2000, 1981};

    private final int situation;
    private final int events;
    private final int tellers;
    private final int claims;

    private RefusalsTest(int number) {
        situation = number;
        StoryTapestry x = made();
        events = x.events();
        tellers = x.tellers();
        claims = x.claims();
    }

    public static void main(String[] args) {
        for (int situation = 0; situation < SITUATIONS.length; situation++) {
            RefusalsTest test = new RefusalsTest(situation);
            test.tape();
            test.claims();
            test.kinds();
            test.tellers();
            test.events();
            test.windowsAndPlaces();
            test.hoursByHand();
            test.twoEventsByHand();
            test.evenings();
        }
        fullTapestry();
        theFirstNamedIsThrown();
        Check.end();
    }

    private StoryTapestry made() {
        StoryTapestry x = new StoryTapestry();
        if (situation == 1) {
            Check.teach(x, Text.events(3) + Text.tellers(4) + "tells t0 e0 at 3 to 9; tells t1 e0 at 11; tells t2 e1 before e2;"
                    + "tells t3 e2 with e1; doubt t3 when evening = 1; believe t0 when evening = 2; doubt t1 when liars > 0 and evening = 3;");
            x.passEvenings(2);
            x.turnDoubt(0);
            x.claimHours(0, 2, 98, 99);
            Check.teach(x, "event e; event e;");
        } else if (situation == 2) {
            Check.teach(x, fullText());
            x.passEvenings(1);
        } else if (situation == 3) {
            Check.teach(x, Text.events(4) + Text.tellers(5) + "tells t0 e1 before e2; tells t1 e2 before e3; tells t2 e3 before e1;"
                    + "tells t3 e1 at 10 to 20; tells t4 e1 at 21 to 30; believe t0; doubt t2 when evening = 2;");
        }
        fillTape(x);
        return x;
    }

    private void fillTape(StoryTapestry x) {
        if (TAPE[situation] > 0) {
            Check.write(x, Text.padded(UNREAD, TAPE[situation]));
        }
    }

    /** 8 events, 10 tellers, 40 claims and 16 orders; the claims of one and the next contradict each other. */
    private static String fullText() {
        StringBuilder text = new StringBuilder(Text.events(8) + Text.tellers(10));
        for (int n = 0; n < 20; n++) {
            text.append("tells t").append(n % 10).append(" e").append(n % 8).append(" at ").append(n * 5).append(";");
        }
        for (int n = 0; n < 20; n++) {
            text.append("tells t").append(n % 5).append(" e").append(n % 8).append(n % 3 == 0 ? " with e" : " before e");
            text.append((n + 1) % 8).append(";");
        }
        return text + "doubt t9 when evening = 1; believe t9;".repeat(8);
    }

    /** The call throws just this, and a twin without the call answers the same behind it, now and later. */
    private void refused(String call, Class<? extends RuntimeException> due, Act act) {
        StoryTapestry x = made();
        StoryTapestry twin = made();
        String what = SITUATIONS[situation] + ": " + call;
        Check.same(what, Check.outcome(() -> act.on(x)), "throws " + due.getName());
        Answers.same(what + ", answers behind it", x, twin);
        sameTape(what + ", the tape behind it", x, twin);
        Check.same(what + ", passEvenings(2) behind it", x.passEvenings(2), twin.passEvenings(2));
        Check.same(what + ", digest() behind two evenings", x.digest(), twin.digest());
        Check.same(what + ", teach() behind it", x.teach(), 0);
        Check.same(what + ", teach() of the twin", twin.teach(), 0);
        Answers.same(what + ", answers behind teach()", x, twin);
    }

    private void sameTape(String what, StoryTapestry x, StoryTapestry twin) {
        int bytes = TAPE[situation];
        Check.same(what + ", trim to all of it", Check.outcome(() -> x.trim(bytes)), bytes);
        Object fed = Check.outcome(() -> x.feed(0, 0, 0, 0, 0));
        Check.same(what + ", feed", fed, Check.outcome(() -> twin.feed(0, 0, 0, 0, 0)));
        Check.same(what + ", feed answers", fed, bytes > 1980 ? "throws " + Check.STATE.getName() : (Object) (bytes + 20));
        x.trim(bytes);
        twin.trim(bytes);
    }

    private void tape() {
        if (TAPE[situation] > 1980) {
            refused("feed", Check.STATE, x -> x.feed(0, 0, 0, 0, 0));
            refused("feed of blanks", Check.STATE, x -> x.feed(0x20202020, 0x20202020, 0x20202020, 0x20202020, 0x20202020));
        }
        for (int n : Text.outside(TAPE[situation] + 1)) {
            refused("trim(" + n + ")", Check.ARGUMENT, x -> x.trim(n));
        }
    }

    private void claims() {
        for (int n : Text.outside(claims)) {
            refused("tellerOf(" + n + ")", Check.INDEX, x -> x.tellerOf(n));
            refused("kindOf(" + n + ")", Check.INDEX, x -> x.kindOf(n));
            refused("eventOf(" + n + ")", Check.INDEX, x -> x.eventOf(n));
            refused("secondEventOf(" + n + ")", Check.INDEX, x -> x.secondEventOf(n));
            refused("firstHourOf(" + n + ")", Check.INDEX, x -> x.firstHourOf(n));
            refused("lastHourOf(" + n + ")", Check.INDEX, x -> x.lastHourOf(n));
            refused("takeBack(" + n + ")", Check.INDEX, x -> x.takeBack(n));
            refused("areContrary(" + n + ", the last)", Check.INDEX, x -> x.areContrary(n, claims - 1));
            refused("areContrary(0, " + n + ")", Check.INDEX, x -> x.areContrary(0, n));
            refused("areContrary twice " + n, Check.INDEX, x -> x.areContrary(n, n));
        }
    }

    private void kinds() {
        StoryTapestry seen = made();
        for (int n = 0; n < claims; n++) {
            int claim = n;
            if (seen.kindOf(claim) == 0) {
                refused("secondEventOf(" + claim + ")", Check.STATE, x -> x.secondEventOf(claim));
            } else {
                refused("firstHourOf(" + claim + ")", Check.STATE, x -> x.firstHourOf(claim));
                refused("lastHourOf(" + claim + ")", Check.STATE, x -> x.lastHourOf(claim));
            }
        }
    }

    private void tellers() {
        for (int n : Text.outside(tellers)) {
            refused("claimsOf(" + n + ")", Check.INDEX, x -> x.claimsOf(n));
            refused("isDoubted(" + n + ")", Check.INDEX, x -> x.isDoubted(n));
            refused("isLiar(" + n + ")", Check.INDEX, x -> x.isLiar(n));
            refused("turnDoubt(" + n + ")", Check.INDEX, x -> x.turnDoubt(n));
            refused("doContradict(" + n + ", the last)", Check.INDEX, x -> x.doContradict(n, tellers - 1));
            refused("doContradict(0, " + n + ")", Check.INDEX, x -> x.doContradict(0, n));
            refused("doContradict twice " + n, Check.INDEX, x -> x.doContradict(n, n));
            refused("contraryPairs(" + n + ", the last)", Check.INDEX, x -> x.contraryPairs(n, tellers - 1));
            refused("contraryPairs(0, " + n + ")", Check.INDEX, x -> x.contraryPairs(0, n));
            refused("contraryPairs twice " + n, Check.INDEX, x -> x.contraryPairs(n, n));
            refused("claimHours(" + n + ", 0, 1, 2)", Check.INDEX, x -> x.claimHours(n, 0, 1, 2));
            refused("claimBefore(" + n + ", 0, 1)", Check.INDEX, x -> x.claimBefore(n, 0, 1));
            refused("claimTogether(" + n + ", 0, 1)", Check.INDEX, x -> x.claimTogether(n, 0, 1));
        }
    }

    private void events() {
        for (int n : Text.outside(events)) {
            refused("isAgreed(" + n + ")", Check.INDEX, x -> x.isAgreed(n));
            refused("windowFrom(" + n + ")", Check.INDEX, x -> x.windowFrom(n));
            refused("windowTo(" + n + ")", Check.INDEX, x -> x.windowTo(n));
            refused("eventAt(" + n + ")", Check.INDEX, x -> x.eventAt(n));
            refused("claimHours(0, " + n + ", 1, 2)", Check.INDEX, x -> x.claimHours(0, n, 1, 2));
            refused("claimBefore(0, " + n + ", 0)", Check.INDEX, x -> x.claimBefore(0, n, 0));
            refused("claimBefore(0, 0, " + n + ")", Check.INDEX, x -> x.claimBefore(0, 0, n));
            refused("claimTogether(0, " + n + ", 0)", Check.INDEX, x -> x.claimTogether(0, n, 0));
            refused("claimTogether(0, 0, " + n + ")", Check.INDEX, x -> x.claimTogether(0, 0, n));
        }
    }

    private void windowsAndPlaces() {
        StoryTapestry seen = made();
        for (int n = 0; n < events; n++) {
            int event = n;
            if (!seen.isAgreed(event)) {
                refused("windowFrom(" + event + ")", Check.STATE, x -> x.windowFrom(event));
                refused("windowTo(" + event + ")", Check.STATE, x -> x.windowTo(event));
            }
            if (!seen.hasOrder()) {
                refused("eventAt(" + event + ")", Check.STATE, x -> x.eventAt(event));
            }
        }
        Check.same(SITUATIONS[situation] + ": hasOrder()", seen.hasOrder(), situation != 3);
        Check.same(SITUATIONS[situation] + ": isAgreed() of the event 1", events > 1 && !seen.isAgreed(1), situation > 1);
    }

    private void hoursByHand() {
        int[][] wrong = {{-1, 0}, {-1, -1}, {-1, 99}, {0, 100}, {99, 100}, {100, 100}, {1, 0}, {99, 98}, {0, -1}, {100, 99}, {99, 0},
            {Integer.MIN_VALUE, Integer.MAX_VALUE}, {Integer.MAX_VALUE, Integer.MIN_VALUE}, {0, Integer.MAX_VALUE}, {Integer.MIN_VALUE, 99}};
        for (int[] hours : wrong) {
            String call = hours[0] + ", " + hours[1] + ")";
            if (tellers > 0) {
                refused("claimHours(0, 0, " + call, Check.ARGUMENT, x -> x.claimHours(0, 0, hours[0], hours[1]));
            }
            refused("claimHours(of no teller, 0, " + call, Check.INDEX, x -> x.claimHours(tellers, 0, hours[0], hours[1]));
            refused("claimHours(0, of no event, " + call, Check.INDEX, x -> x.claimHours(0, events, hours[0], hours[1]));
        }
    }

    private void twoEventsByHand() {
        for (int n = 0; n < events; n++) {
            int event = n;
            String call = event + ", " + event + ")";
            refused("claimBefore(0, " + call, Check.ARGUMENT, x -> x.claimBefore(0, event, event));
            refused("claimTogether(0, " + call, Check.ARGUMENT, x -> x.claimTogether(0, event, event));
            refused("claimBefore(of no teller, " + call, Check.INDEX, x -> x.claimBefore(tellers, event, event));
            refused("claimTogether(of no teller, " + call, Check.INDEX, x -> x.claimTogether(tellers, event, event));
        }
        refused("claimBefore(0, twice no event)", Check.INDEX, x -> x.claimBefore(0, events, events));
        refused("claimTogether(0, twice no event)", Check.INDEX, x -> x.claimTogether(0, events, events));
    }

    private void evenings() {
        for (int n : new int[] {0, 31, 32, -1, -30, Integer.MIN_VALUE, Integer.MAX_VALUE}) {
            refused("passEvenings(" + n + ")", Check.ARGUMENT, x -> x.passEvenings(n));
            refused("liarsAfter(" + n + ")", Check.ARGUMENT, x -> x.liarsAfter(n));
        }
    }

    /** "Throws IllegalStateException if there are 40 claims", of all three kinds. */
    private static void fullTapestry() {
        RefusalsTest full = new RefusalsTest(2);
        Check.same("claims() of the full one", full.claims, 40);
        full.refused("claimHours(0, 0, 0, 99)", Check.STATE, x -> x.claimHours(0, 0, 0, 99));
        full.refused("claimHours(9, 7, 99, 99)", Check.STATE, x -> x.claimHours(9, 7, 99, 99));
        full.refused("claimBefore(0, 0, 1)", Check.STATE, x -> x.claimBefore(0, 0, 1));
        full.refused("claimBefore(9, 7, 6)", Check.STATE, x -> x.claimBefore(9, 7, 6));
        full.refused("claimTogether(0, 0, 1)", Check.STATE, x -> x.claimTogether(0, 0, 1));
        full.refused("claimTogether(9, 7, 6)", Check.STATE, x -> x.claimTogether(9, 7, 6));
    }

    /** Calls to which all exceptions of the method apply but for the ones ahead, which are taken away one by one. */
    private static void theFirstNamedIsThrown() {
        RefusalsTest full = new RefusalsTest(2);
        full.refused("claimHours: all three", Check.INDEX, x -> x.claimHours(10, 8, 100, -1));
        full.refused("claimHours: all three by the event", Check.INDEX, x -> x.claimHours(9, 8, 100, -1));
        full.refused("claimHours: index and state", Check.INDEX, x -> x.claimHours(10, 0, 1, 2));
        full.refused("claimHours: argument and state", Check.ARGUMENT, x -> x.claimHours(9, 7, 2, 1));
        full.refused("claimHours: state", Check.STATE, x -> x.claimHours(9, 7, 1, 1));
        full.refused("claimBefore: all three", Check.INDEX, x -> x.claimBefore(10, 3, 3));
        full.refused("claimBefore: all three by the events", Check.INDEX, x -> x.claimBefore(9, 8, 8));
        full.refused("claimBefore: index and state", Check.INDEX, x -> x.claimBefore(9, 7, 8));
        full.refused("claimBefore: argument and state", Check.ARGUMENT, x -> x.claimBefore(9, 7, 7));
        full.refused("claimTogether: all three", Check.INDEX, x -> x.claimTogether(10, 3, 3));
        full.refused("claimTogether: all three by the events", Check.INDEX, x -> x.claimTogether(9, 8, 8));
        full.refused("claimTogether: index and state", Check.INDEX, x -> x.claimTogether(9, 8, 7));
        full.refused("claimTogether: argument and state", Check.ARGUMENT, x -> x.claimTogether(9, 7, 7));
        RefusalsTest odds = new RefusalsTest(3);
        odds.refused("eventAt: both", Check.INDEX, x -> x.eventAt(4));
        odds.refused("eventAt: both, below", Check.INDEX, x -> x.eventAt(-1));
        odds.refused("eventAt: state", Check.STATE, x -> x.eventAt(3));
    }
}
