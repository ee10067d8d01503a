/** Promises 31 to 35: claims and doubts by hand. */
public final class HandTest {
    private static final String THREE = "event a; event b; event c; teller q; teller r;";
    private static final int[] NO_TELLER = {-1, 2, 10, Integer.MAX_VALUE, Integer.MIN_VALUE};
    private static final int[] NO_EVENT = {-1, 3, 8, Integer.MAX_VALUE, Integer.MIN_VALUE};

    public static void main(String[] args) {
        claimHours();
        claimHoursIsRefused();
        claimsOfTwoEvents();
        claimsOfTwoEventsAreRefused();
        fortyClaims();
        takeBack();
        takeBackTurnsAllBack();
        takeBackIsRefused();
        turnDoubt();
        byHandLikeTaught();
        Check.end();
    }

    private static void claimHours() {
        StoryTapestry x = Check.taught(THREE + "tells q a at 5;");
        Check.same("claimHours(1, 0, 6, 9)", x.claimHours(1, 0, 6, 9), 1);
        Check.same("claimHours(0, 2, 0, 99)", x.claimHours(0, 2, 0, 99), 2);
        Check.same("claimHours(0, 1, 99, 99)", x.claimHours(0, 1, 99, 99), 3);
        Check.same("claimHours(0, 1, 0, 0)", x.claimHours(0, 1, 0, 0), 4);
        Check.same("claims()", x.claims(), 5);
        Check.same("tellerOf(1)", x.tellerOf(1), 1);
        Check.same("kindOf(1)", x.kindOf(1), 0);
        Check.same("eventOf(2)", x.eventOf(2), 2);
        Check.same("firstHourOf(1)", x.firstHourOf(1), 6);
        Check.same("lastHourOf(1)", x.lastHourOf(1), 9);
        Check.yes("doContradict(0, 1) behind it", x.doContradict(0, 1));
        Check.yes("doContradict(0, 0) behind it", x.doContradict(0, 0));
        Check.yes("isLiar(0) behind it", x.isLiar(0));
        Check.no("isAgreed(0) behind it", x.isAgreed(0));
        x.turnDoubt(1);
        Check.same("claimHours(1, 0, 5, 5) of a doubted teller", x.claimHours(1, 0, 5, 5), 5);
        Check.same("claimsOf(1)", x.claimsOf(1), 2);
    }

    private static void claimHoursIsRefused() {
        StoryTapestry x = Check.taught(THREE);
        int[][] hours = {{-1, 5}, {5, 100}, {6, 5}, {99, 0}, {100, 100}, {-1, -1}, {Integer.MIN_VALUE, Integer.MAX_VALUE},
            {Integer.MAX_VALUE, Integer.MIN_VALUE}, {0, Integer.MAX_VALUE}, {Integer.MIN_VALUE, 0}, {0, -1}, {100, 99}};
        for (int[] pair : hours) {
            String what = "claimHours(0, 0, " + pair[0] + ", " + pair[1] + ")";
            Check.refused(x, what, Check.ARGUMENT, () -> x.claimHours(0, 0, pair[0], pair[1]));
            Check.refused(x, what + " of no teller", Check.INDEX, () -> x.claimHours(2, 0, pair[0], pair[1]));
            Check.refused(x, what + " of no event", Check.INDEX, () -> x.claimHours(0, 3, pair[0], pair[1]));
        }
        for (int teller : NO_TELLER) {
            Check.refused(x, "claimHours(" + teller + ", 0, 1, 2)", Check.INDEX, () -> x.claimHours(teller, 0, 1, 2));
        }
        for (int event : NO_EVENT) {
            Check.refused(x, "claimHours(0, " + event + ", 1, 2)", Check.INDEX, () -> x.claimHours(0, event, 1, 2));
        }
    }

    private static void claimsOfTwoEvents() {
        StoryTapestry x = Check.taught(THREE);
        Check.same("claimBefore(0, 2, 0)", x.claimBefore(0, 2, 0), 0);
        Check.same("claimTogether(1, 0, 1)", x.claimTogether(1, 0, 1), 1);
        Check.same("kindOf(0)", x.kindOf(0), 1);
        Check.same("kindOf(1)", x.kindOf(1), 2);
        Check.same("tellerOf(0)", x.tellerOf(0), 0);
        Check.same("tellerOf(1)", x.tellerOf(1), 1);
        Check.same("eventOf(0)", x.eventOf(0), 2);
        Check.same("secondEventOf(0)", x.secondEventOf(0), 0);
        Check.same("eventOf(1)", x.eventOf(1), 0);
        Check.same("secondEventOf(1)", x.secondEventOf(1), 1);
        Check.same("eventAt(0)", x.eventAt(0), 1);
        Check.same("eventAt(2)", x.eventAt(2), 0);
        Check.no("doContradict(0, 1)", x.doContradict(0, 1));
        Check.same("claimTogether(1, 0, 2)", x.claimTogether(1, 0, 2), 2);
        Check.yes("doContradict(0, 1) behind it", x.doContradict(0, 1));
        Check.same("claimBefore(1, 0, 2)", x.claimBefore(1, 0, 2), 3);
        Check.same("contraryPairs(0, 1)", x.contraryPairs(0, 1), 2);
        Check.same("contraryPairs(1, 1)", x.contraryPairs(1, 1), 1);
    }

    private static void claimsOfTwoEventsAreRefused() {
        StoryTapestry x = Check.taught(THREE);
        for (int event = 0; event < 3; event++) {
            int e = event;
            Check.refused(x, "claimBefore(0, " + e + ", " + e + ")", Check.ARGUMENT, () -> x.claimBefore(0, e, e));
            Check.refused(x, "claimTogether(1, " + e + ", " + e + ")", Check.ARGUMENT, () -> x.claimTogether(1, e, e));
        }
        for (int teller : NO_TELLER) {
            Check.refused(x, "claimBefore(" + teller + ", 0, 1)", Check.INDEX, () -> x.claimBefore(teller, 0, 1));
            Check.refused(x, "claimBefore(" + teller + ", 1, 1)", Check.INDEX, () -> x.claimBefore(teller, 1, 1));
            Check.refused(x, "claimTogether(" + teller + ", 0, 1)", Check.INDEX, () -> x.claimTogether(teller, 0, 1));
            Check.refused(x, "claimTogether(" + teller + ", 1, 1)", Check.INDEX, () -> x.claimTogether(teller, 1, 1));
        }
        for (int event : NO_EVENT) {
            Check.refused(x, "claimBefore(0, " + event + ", 1)", Check.INDEX, () -> x.claimBefore(0, event, 1));
            Check.refused(x, "claimBefore(0, 1, " + event + ")", Check.INDEX, () -> x.claimBefore(0, 1, event));
            Check.refused(x, "claimBefore(0, twice " + event + ")", Check.INDEX, () -> x.claimBefore(0, event, event));
            Check.refused(x, "claimTogether(0, " + event + ", 1)", Check.INDEX, () -> x.claimTogether(0, event, 1));
            Check.refused(x, "claimTogether(0, 1, " + event + ")", Check.INDEX, () -> x.claimTogether(0, 1, event));
            Check.refused(x, "claimTogether(0, twice " + event + ")", Check.INDEX, () -> x.claimTogether(0, event, event));
        }
    }

    private static void fortyClaims() {
        StoryTapestry x = Check.taught(THREE + "tells q a at 1;".repeat(36));
        Check.same("the 37th claim", x.claimHours(0, 0, 1, 1), 36);
        Check.same("the 38th claim", x.claimBefore(1, 0, 1), 37);
        Check.same("the 39th claim", x.claimTogether(1, 1, 2), 38);
        Check.same("the 40th claim", x.claimHours(1, 2, 98, 99), 39);
        Check.refused(x, "the 41st claim, of hours", Check.STATE, () -> x.claimHours(0, 0, 1, 1));
        Check.refused(x, "the 41st claim, of one before", Check.STATE, () -> x.claimBefore(0, 0, 1));
        Check.refused(x, "the 41st claim, of both together", Check.STATE, () -> x.claimTogether(0, 0, 1));
        Check.refused(x, "of hours that are none", Check.ARGUMENT, () -> x.claimHours(0, 0, 2, 1));
        Check.refused(x, "of one event, before", Check.ARGUMENT, () -> x.claimBefore(0, 1, 1));
        Check.refused(x, "of one event, together", Check.ARGUMENT, () -> x.claimTogether(0, 1, 1));
        Check.refused(x, "of hours of no teller", Check.INDEX, () -> x.claimHours(2, 0, 1, 1));
        Check.refused(x, "of no event, before", Check.INDEX, () -> x.claimBefore(0, 1, 3));
        Check.refused(x, "of no event, together", Check.INDEX, () -> x.claimTogether(0, 3, 1));
        Check.same("lastHourOf(39)", x.lastHourOf(39), 99);
        Check.same("takeBack(0)", x.takeBack(0), 0);
        Check.same("a 40th claim again", x.claimTogether(0, 2, 1), 39);
        Check.refused(x, "a 41st claim again", Check.STATE, () -> x.claimTogether(0, 2, 1));
        Check.same("claims()", x.claims(), 40);
    }

    private static void takeBack() {
        StoryTapestry x = Check.taught(THREE + "tells q a at 1 to 2; tells r b before c; tells r c with a; tells q b at 8;");
        Check.same("takeBack(1)", x.takeBack(1), 1);
        Check.same("claims()", x.claims(), 3);
        Check.same("kindOf(0)", x.kindOf(0), 0);
        Check.same("lastHourOf(0)", x.lastHourOf(0), 2);
        Check.same("kindOf(1)", x.kindOf(1), 2);
        Check.same("tellerOf(1)", x.tellerOf(1), 1);
        Check.same("eventOf(1)", x.eventOf(1), 2);
        Check.same("secondEventOf(1)", x.secondEventOf(1), 0);
        Check.same("tellerOf(2)", x.tellerOf(2), 0);
        Check.same("firstHourOf(2)", x.firstHourOf(2), 8);
        Check.same("lastHourOf(2)", x.lastHourOf(2), 8);
        Check.refused(x, "kindOf(3)", Check.INDEX, () -> x.kindOf(3));
        Check.same("takeBack(2), the last one", x.takeBack(2), 0);
        Check.same("takeBack(0), the first one", x.takeBack(0), 0);
        Check.same("kindOf(0) behind it", x.kindOf(0), 2);
        Check.same("takeBack(0), the only one", x.takeBack(0), 1);
        Check.same("claims() behind all", x.claims(), 0);
        Check.same("claimsOf(1) behind all", x.claimsOf(1), 0);
    }

    private static void takeBackTurnsAllBack() {
        StoryTapestry x = Check.taught(THREE + "tells q a at 1; tells r b before c;");
        long before = x.digest();
        x.claimHours(1, 0, 2, 2);
        x.claimBefore(0, 2, 1);
        Check.same("liars() between", x.liars(), 1);
        x.takeBack(3);
        x.takeBack(2);
        Check.same("digest() behind it", x.digest(), before);
        Check.same("liars() behind it", x.liars(), 0);
        Check.no("doContradict(0, 1) behind it", x.doContradict(0, 1));
    }

    private static void takeBackIsRefused() {
        StoryTapestry x = Check.taught(THREE + "tells q a at 1; tells r b before c;");
        int[] wrong = {-1, 2, 40, Integer.MAX_VALUE, Integer.MIN_VALUE};
        for (int claim : wrong) {
            Check.refused(x, "takeBack(" + claim + ")", Check.INDEX, () -> x.takeBack(claim));
        }
        x.takeBack(0);
        Check.refused(x, "takeBack(1) of 1", Check.INDEX, () -> x.takeBack(1));
    }

    private static void turnDoubt() {
        StringBuilder text = new StringBuilder();
        for (int n = 0; n < 10; n++) {
            text.append("teller t").append(n).append(";");
        }
        StoryTapestry x = Check.taught(text.toString());
        for (int teller = 0; teller < 10; teller++) {
            Check.yes("turnDoubt(" + teller + ")", x.turnDoubt(teller));
            for (int other = 0; other < 10; other++) {
                Check.same("isDoubted(" + other + ") behind " + teller, x.isDoubted(other), other <= teller);
            }
        }
        for (int teller = 9; teller >= 0; teller--) {
            Check.no("turnDoubt(" + teller + ") again", x.turnDoubt(teller));
            Check.no("isDoubted(" + teller + ") behind it", x.isDoubted(teller));
        }
        Check.same("ordersCarriedOut() behind it", x.ordersCarriedOut(), 0);
        Check.same("evenings() behind it", x.evenings(), 0);
        int[] wrong = {-1, 10, 32, Integer.MAX_VALUE, Integer.MIN_VALUE};
        for (int teller : wrong) {
            Check.refused(x, "turnDoubt(" + teller + ")", Check.INDEX, () -> x.turnDoubt(teller));
        }
        StoryTapestry none = new StoryTapestry();
        Check.refused(none, "turnDoubt(0) of none", Check.INDEX, () -> none.turnDoubt(0));
    }

    private static void byHandLikeTaught() {
        StoryTapestry taught = Check.taught(THREE + "tells q a at 3 to 9; tells r a before c; tells q c with b;");
        StoryTapestry x = Check.taught(THREE);
        x.claimHours(0, 0, 3, 9);
        x.claimBefore(1, 0, 2);
        x.claimTogether(0, 2, 1);
        Check.same("digest() of claims by hand", x.digest(), taught.digest());
    }
}
