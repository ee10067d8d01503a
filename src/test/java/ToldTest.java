/** Promises 4 and 6 to 17: what is told, and which claims contradict each other. */
public final class ToldTest {
    private static final String FULL = "event a; event b; event c; teller s; teller t; event d; teller u;"
            + "tells t b at 7 to 20; tells s a before c; doubt u; tells u d with b; tells t a at 5; believe u; doubt s;";

    private static final int[] NO_CLAIM = {-1, 4, 5, 40, Integer.MAX_VALUE, Integer.MIN_VALUE};

    public static void main(String[] args) {
        counts();
        claimsAnswerWhatIsTold();
        claimsAreRefused();
        teachReplacesAll();
        anErrorKeepsAll();
        hoursContradict();
        ordersOfTwoContradict();
        beforeAndTogetherContradict();
        kindsThatNeverContradict();
        doubtedClaimsStillContradict();
        Check.end();
    }

    private static void counts() {
        StoryTapestry x = Check.taught(FULL);
        Check.same("events()", x.events(), 4);
        Check.same("tellers()", x.tellers(), 3);
        Check.same("claims()", x.claims(), 4);
        Check.same("evenings()", x.evenings(), 0);
        Check.same("ordersCarriedOut()", x.ordersCarriedOut(), 0);
        x.passEvenings(2);
        Check.same("evenings() behind 2", x.evenings(), 2);
        Check.same("ordersCarriedOut() behind 2", x.ordersCarriedOut(), 5);
        StringBuilder many = new StringBuilder();
        for (int n = 0; n < 10; n++) {
            many.append("teller t").append(n).append(";");
            Check.same("tellers() of " + many, Check.taught(many.toString()).tellers(), n + 1);
        }
        for (int n = 0; n < 8; n++) {
            many.append("event e").append(n).append(";");
            Check.same("events() of " + many, Check.taught(many.toString()).events(), n + 1);
        }
        many.append("tells t9 e7 at 1;".repeat(40));
        Check.same("claims() of 40", Check.taught(many.toString()).claims(), 40);
    }

    private static void claim(StoryTapestry x, int claim, int teller, int kind, int event) {
        Check.same("tellerOf(" + claim + ")", x.tellerOf(claim), teller);
        Check.same("kindOf(" + claim + ")", x.kindOf(claim), kind);
        Check.same("eventOf(" + claim + ")", x.eventOf(claim), event);
    }

    private static void claimsAnswerWhatIsTold() {
        StoryTapestry x = Check.taught(FULL);
        claim(x, 0, 1, 0, 1);
        claim(x, 1, 0, 1, 0);
        claim(x, 2, 2, 2, 3);
        claim(x, 3, 1, 0, 0);
        Check.same("firstHourOf(0)", x.firstHourOf(0), 7);
        Check.same("lastHourOf(0)", x.lastHourOf(0), 20);
        Check.same("secondEventOf(1)", x.secondEventOf(1), 2);
        Check.same("secondEventOf(2)", x.secondEventOf(2), 1);
        Check.same("firstHourOf(3)", x.firstHourOf(3), 5);
        Check.same("lastHourOf(3)", x.lastHourOf(3), 5);
        StoryTapestry edges = Check.taught("event a; teller t; tells t a at 0 to 99; tells t a at 99; tells t a at 0;");
        Check.same("firstHourOf(0) at 0", edges.firstHourOf(0), 0);
        Check.same("lastHourOf(0) at 99", edges.lastHourOf(0), 99);
        Check.same("firstHourOf(1) at 99", edges.firstHourOf(1), 99);
        Check.same("lastHourOf(2) at 0", edges.lastHourOf(2), 0);
    }

    private static void claimsAreRefused() {
        StoryTapestry x = Check.taught(FULL);
        Check.refused(x, "secondEventOf(0)", Check.STATE, () -> x.secondEventOf(0));
        Check.refused(x, "secondEventOf(3)", Check.STATE, () -> x.secondEventOf(3));
        Check.refused(x, "firstHourOf(1)", Check.STATE, () -> x.firstHourOf(1));
        Check.refused(x, "firstHourOf(2)", Check.STATE, () -> x.firstHourOf(2));
        Check.refused(x, "lastHourOf(1)", Check.STATE, () -> x.lastHourOf(1));
        Check.refused(x, "lastHourOf(2)", Check.STATE, () -> x.lastHourOf(2));
        for (int claim : NO_CLAIM) {
            Check.refused(x, "tellerOf(" + claim + ")", Check.INDEX, () -> x.tellerOf(claim));
            Check.refused(x, "kindOf(" + claim + ")", Check.INDEX, () -> x.kindOf(claim));
            Check.refused(x, "eventOf(" + claim + ")", Check.INDEX, () -> x.eventOf(claim));
            Check.refused(x, "secondEventOf(" + claim + ")", Check.INDEX, () -> x.secondEventOf(claim));
            Check.refused(x, "firstHourOf(" + claim + ")", Check.INDEX, () -> x.firstHourOf(claim));
            Check.refused(x, "lastHourOf(" + claim + ")", Check.INDEX, () -> x.lastHourOf(claim));
            Check.refused(x, "areContrary(0, " + claim + ")", Check.INDEX, () -> x.areContrary(0, claim));
            Check.refused(x, "areContrary(" + claim + ", 3)", Check.INDEX, () -> x.areContrary(claim, 3));
            Check.refused(x, "areContrary twice " + claim, Check.INDEX, () -> x.areContrary(claim, claim));
        }
    }

    private static void teachReplacesAll() {
        StoryTapestry x = Check.taught(FULL);
        x.passEvenings(3);
        x.turnDoubt(1);
        x.claimHours(0, 0, 1, 2);
        Check.same("teach() of less", Check.teach(x, "teller q; event r; tells q r at 9 to 10; doubt q when evening = 1;"), 0);
        Check.same("events()", x.events(), 1);
        Check.same("tellers()", x.tellers(), 1);
        Check.same("claims()", x.claims(), 1);
        Check.same("evenings()", x.evenings(), 0);
        Check.same("ordersCarriedOut()", x.ordersCarriedOut(), 0);
        Check.no("isDoubted(0)", x.isDoubted(0));
        claim(x, 0, 0, 0, 0);
        Check.same("firstHourOf(0)", x.firstHourOf(0), 9);
        Check.same("lastHourOf(0)", x.lastHourOf(0), 10);
        Check.same("windowFrom(0)", x.windowFrom(0), 9);
        Check.same("passEvenings(1), the orders are new", x.passEvenings(1), 0);
        Check.same("passEvenings(1), evening 1", x.passEvenings(1), 1);
        Check.same("the digest is that of a new object", again(x, FULL), Check.taught(FULL).digest());
        Check.same("teach() of nothing", x.teach(), 0);
        Check.same("the digest is that of an empty object", x.digest(), new StoryTapestry().digest());
        Check.same("passEvenings(1) without orders", x.passEvenings(1), 0);
    }

    private static long again(StoryTapestry x, String text) {
        Check.teach(x, text);
        return x.digest();
    }

    private static void anErrorKeepsAll() {
        String[] wrong = {"event a; event", "event a; event a;", "teller z; doubt q;", "event h; teller o; doubt o; ".repeat(2),
            "event a; teller t;" + "tells t a at 1;".repeat(41), "teller t;" + "doubt t;".repeat(17),
            "event a; teller t; tells t a at 100;", "event b; event c; event a; teller t; tells t a with a;"};
        int[] errors = {1, 2, 3, 2, 4, 4, 5, 5};
        for (int n = 0; n < wrong.length; n++) {
            StoryTapestry x = Check.taught(FULL);
            StoryTapestry y = Check.taught(FULL);
            x.passEvenings(1);
            y.passEvenings(1);
            x.claimBefore(2, 3, 2);
            y.claimBefore(2, 3, 2);
            Check.same("teach() of " + wrong[n], Check.teach(x, wrong[n]), errors[n]);
            Check.same("digest() behind it", x.digest(), y.digest());
            Check.same("passEvenings(2) behind it", x.passEvenings(2), y.passEvenings(2));
            Check.same("digest() behind them", x.digest(), y.digest());
            Check.same("firstHourOf(0)", x.firstHourOf(0), 7);
            Check.same("secondEventOf(4)", x.secondEventOf(4), 2);
        }
    }

    private static void contrary(String text, boolean due) {
        StoryTapestry x = Check.taught("event a; event b; event c; event d; teller s; teller t;" + text);
        Check.same("areContrary(0, 1) of " + text, x.areContrary(0, 1), due);
        Check.same("areContrary(1, 0) of " + text, x.areContrary(1, 0), due);
        Check.no("areContrary(0, 0) of " + text, x.areContrary(0, 0));
        Check.no("areContrary(1, 1) of " + text, x.areContrary(1, 1));
    }

    private static void hoursContradict() {
        contrary("tells s a at 3; tells t a at 3;", false);
        contrary("tells s a at 3; tells t a at 4;", true);
        contrary("tells s a at 3; tells s a at 4;", true);
        contrary("tells s a at 3; tells t b at 4;", false);
        contrary("tells s a at 3 to 9; tells t a at 9 to 12;", false);
        contrary("tells s a at 3 to 9; tells t a at 10 to 12;", true);
        contrary("tells s a at 3 to 9; tells t a at 4 to 5;", false);
        contrary("tells s a at 0 to 99; tells t a at 99;", false);
        contrary("tells s a at 0; tells t a at 99;", true);
    }

    private static void ordersOfTwoContradict() {
        contrary("tells s a before b; tells t b before a;", true);
        contrary("tells s a before b; tells s b before a;", true);
        contrary("tells s a before b; tells t a before b;", false);
        contrary("tells s a before b; tells t b before c;", false);
        contrary("tells s a before b; tells t c before a;", false);
        contrary("tells s a before b; tells t c before b;", false);
        contrary("tells s a before b; tells t a before c;", false);
        contrary("tells s a before b; tells t c before d;", false);
    }

    private static void beforeAndTogetherContradict() {
        contrary("tells s a before b; tells t a with b;", true);
        contrary("tells s a before b; tells t b with a;", true);
        contrary("tells s b before a; tells t b with a;", true);
        contrary("tells s a before b; tells t a with c;", false);
        contrary("tells s a before b; tells t c with b;", false);
        contrary("tells s a before b; tells t c with a;", false);
        contrary("tells s a before b; tells t b with c;", false);
        contrary("tells s a before b; tells t c with d;", false);
    }

    private static void kindsThatNeverContradict() {
        contrary("tells s a with b; tells t a with b;", false);
        contrary("tells s a with b; tells t b with a;", false);
        contrary("tells s a with b; tells t c with d;", false);
        contrary("tells s a at 1; tells t a with b;", false);
        contrary("tells s a at 1; tells t a before b;", false);
        contrary("tells s b at 1 to 3; tells t b before a;", false);
        contrary("tells s a at 2; tells t a before c;", false);
        contrary("tells s a at 2 to 2; tells t c with a;", false);
    }

    private static void doubtedClaimsStillContradict() {
        StoryTapestry x = Check.taught("event a; teller s; teller t; tells s a at 1; tells t a at 2;");
        x.turnDoubt(0);
        x.turnDoubt(1);
        Check.yes("areContrary(0, 1) of doubted tellers", x.areContrary(0, 1));
    }
}
