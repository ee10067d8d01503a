/** Promises 26 to 30: windows of events and their order. */
public final class EventsTest {
    private static final int[] NO_EVENT = {-1, 3, 8, 32, Integer.MAX_VALUE, Integer.MIN_VALUE};

    public static void main(String[] args) {
        windows();
        windowsCountBelievedTellersAlone();
        windowsAreRefused();
        orderBySmallestNumber();
        orderByTruthfulTellers();
        noOrder();
        placesAreRefused();
        Check.end();
    }

    private static StoryTapestry three(String text) {
        return Check.taught("event a; event b; event c; teller q; teller r; teller s;" + text);
    }

    private static void window(String what, StoryTapestry x, int event, int from, int to) {
        Check.yes("isAgreed(" + event + ") " + what, x.isAgreed(event));
        Check.same("windowFrom(" + event + ") " + what, x.windowFrom(event), from);
        Check.same("windowTo(" + event + ") " + what, x.windowTo(event), to);
    }

    private static void noWindow(String what, StoryTapestry x, int event) {
        Check.no("isAgreed(" + event + ") " + what, x.isAgreed(event));
        Check.refused(x, "windowFrom(" + event + ") " + what, Check.STATE, () -> x.windowFrom(event));
        Check.refused(x, "windowTo(" + event + ") " + what, Check.STATE, () -> x.windowTo(event));
    }

    private static void windows() {
        StoryTapestry x = three("tells q a at 3 to 9; tells r a at 5 to 20; tells q b at 7; tells s a at 0 to 8; tells s b with c;");
        window("of three claims", x, 0, 5, 8);
        window("of one claim", x, 1, 7, 7);
        window("of none", x, 2, 0, 99);
        StoryTapestry y = three("tells q a at 3 to 9; tells r a at 9 to 20; tells q b at 3 to 9; tells r b at 10 to 20;"
                + "tells q c at 1; tells q c at 2;");
        window("of one hour", y, 0, 9, 9);
        noWindow("of no hour", y, 1);
        noWindow("of one who is contrary", y, 2);
        StoryTapestry z = three("tells q a at 0; tells r b at 99; tells q c at 0 to 99; tells r c at 0 to 99;");
        window("of the first hour", z, 0, 0, 0);
        window("of the last hour", z, 1, 99, 99);
        window("of all hours", z, 2, 0, 99);
    }

    private static void windowsCountBelievedTellersAlone() {
        StoryTapestry x = three("tells q a at 3 to 9; tells r a at 12; tells q b at 4; tells q b at 4 to 6; tells s b at 1 to 5;");
        Check.yes("isLiar(1)", x.isLiar(1));
        noWindow("with a liar", x, 0);
        x.turnDoubt(1);
        window("behind a doubt", x, 0, 3, 9);
        x.turnDoubt(0);
        window("with all doubted", x, 0, 0, 99);
        window("of another one", x, 1, 1, 5);
        x.turnDoubt(1);
        window("behind a belief", x, 0, 12, 12);
    }

    private static void windowsAreRefused() {
        StoryTapestry x = three("tells q a at 1; tells r a at 2;");
        for (int event : NO_EVENT) {
            Check.refused(x, "isAgreed(" + event + ")", Check.INDEX, () -> x.isAgreed(event));
            Check.refused(x, "windowFrom(" + event + ")", Check.INDEX, () -> x.windowFrom(event));
            Check.refused(x, "windowTo(" + event + ")", Check.INDEX, () -> x.windowTo(event));
        }
    }

    private static void order(String what, StoryTapestry x, String due) {
        Check.yes("hasOrder() " + what, x.hasOrder());
        StringBuilder seen = new StringBuilder();
        for (int place = 0; place < x.events(); place++) {
            seen.append(x.eventAt(place));
        }
        Check.same("the order " + what, seen.toString(), due);
    }

    private static void orderBySmallestNumber() {
        order("without claims", three(""), "012");
        order("c before a", three("tells q c before a;"), "120");
        order("c before b", three("tells q c before b;"), "021");
        order("b before a", three("tells q b before a;"), "102");
        order("all turned", three("tells q c before b; tells r b before a;"), "210");
        order("told twice", three("tells q c before b; tells r c before b; tells q a before c;"), "021");
        order("together does not count", three("tells q c with a; tells q c at 1; tells q a at 5;"), "012");
        order("8 events", Check.taught("event a; event b; event c; event d; event e; event f; event g; event h; teller t;"
                + "tells t h before a; tells t a before g; tells t d before b; tells t f before d;"), "24531706");
    }

    private static void orderByTruthfulTellers() {
        StoryTapestry x = three("tells q c before a; tells r a before c; tells r b before a;");
        Check.yes("isLiar(1)", x.isLiar(1));
        order("without the liar", x, "120");
        x.turnDoubt(0);
        order("with the first one doubted", x, "102");
        x.turnDoubt(1);
        order("with both doubted", x, "012");
        StoryTapestry contrary = three("tells q c before a; tells q a before c; tells q b before a;");
        order("without one who is contrary", contrary, "012");
    }

    private static void noOrder() {
        StoryTapestry x = three("tells q a before b; tells r b before c; tells s c before a;");
        Check.no("hasOrder() of a ring", x.hasOrder());
        for (int place = 0; place < 3; place++) {
            int at = place;
            Check.refused(x, "eventAt(" + at + ") of a ring", Check.STATE, () -> x.eventAt(at));
        }
        Check.same("contradictions() of a ring", x.contradictions(), 0);
        Check.same("liars() of a ring", x.liars(), 0);
        x.turnDoubt(1);
        order("of a broken ring", x, "201");
        x.turnDoubt(1);
        Check.no("hasOrder() of the ring again", x.hasOrder());
        StoryTapestry later = Check.taught("event a; event b; event c; event d; teller q;"
                + "tells q b before c; tells q c before d; tells q d before b;");
        Check.no("hasOrder() of a ring behind a place", later.hasOrder());
        Check.refused(later, "eventAt(0) ahead of a ring", Check.STATE, () -> later.eventAt(0));
        StoryTapestry own = three("tells q a before b; tells q b before c; tells q c before a;");
        Check.no("hasOrder() of one teller's ring", own.hasOrder());
        Check.no("isLiar(0) of one teller's ring", own.isLiar(0));
    }

    private static void placesAreRefused() {
        StoryTapestry x = three("tells q c before a;");
        StoryTapestry ring = three("tells q a before b; tells r b before c; tells s c before a;");
        StoryTapestry empty = new StoryTapestry();
        for (int place : NO_EVENT) {
            Check.refused(x, "eventAt(" + place + ")", Check.INDEX, () -> x.eventAt(place));
            Check.refused(ring, "eventAt(" + place + ") of a ring", Check.INDEX, () -> ring.eventAt(place));
        }
        Check.refused(empty, "eventAt(0) without events", Check.INDEX, () -> empty.eventAt(0));
    }
}
