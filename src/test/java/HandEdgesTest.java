/** The promises 31 to 35, by hand: each sentence that names a boundary case, on the boundary, short of it and past it. */
public final class HandEdgesTest {
    private static final int[] EDGE_HOURS = {Integer.MIN_VALUE, -2, -1, 0, 1, 50, 98, 99, 100, 101, Integer.MAX_VALUE};

    public static void main(String[] args) {
        hoursOfClaims();
        theLastIsNotLessThanTheFirst();
        indexesOfClaims();
        bothEventsAreNotTheSame();
        numbersUpToForty();
        fortyToldAhead();
        roomBehindTakeBack();
        takeBackTheFirstToTheLast();
        takeBackTellsTheTeller();
        takeBackUntilNone();
        turnDoubtTwice();
        byHandAndByOrders();
        Check.end();
    }

    /** "if from is less than 0, to is greater than 99, or less than from" */
    private static void hoursOfClaims() {
        for (int from : EDGE_HOURS) {
            StoryTapestry x = Text.told(2, 2);
            int due = 0;
            for (int to : EDGE_HOURS) {
                String call = "claimHours(1, 1, " + from + ", " + to + ")";
                if (from >= 0 && to <= 99 && to >= from) {
                    Check.same(call, x.claimHours(1, 1, from, to), due);
                    Check.same("firstHourOf() of " + call, x.firstHourOf(due), from);
                    Check.same("lastHourOf() of " + call, x.lastHourOf(due), to);
                    due++;
                } else {
                    Check.refused(x, call, Check.ARGUMENT, () -> x.claimHours(1, 1, from, to));
                }
            }
            Check.same("claims() from " + from, x.claims(), due);
        }
    }

    private static void theLastIsNotLessThanTheFirst() {
        for (int hour = 0; hour <= 99; hour++) {
            StoryTapestry x = Text.told(1, 1);
            int at = hour;
            Check.same("claimHours(0, 0, " + hour + ", " + hour + ")", x.claimHours(0, 0, hour, hour), 0);
            Check.refused(x, "claimHours(0, 0, " + hour + ", one less)", Check.ARGUMENT, () -> x.claimHours(0, 0, at, at - 1));
            Check.refused(x, "claimHours(0, 0, one more, " + hour + ")", Check.ARGUMENT, () -> x.claimHours(0, 0, at + 1, at));
            Check.same("claims() behind them", x.claims(), 1);
        }
    }

    /** "if there is no such teller or event": the last that there are, and the first that there are not. */
    private static void indexesOfClaims() {
        for (int events = 2; events <= 8; events += 3) {
            for (int tellers = 1; tellers <= 10; tellers += 3) {
                StoryTapestry x = Text.told(events, tellers);
                int e = events;
                int t = tellers;
                Check.same("claimHours of the last ones", x.claimHours(t - 1, e - 1, 0, 99), 0);
                Check.same("claimBefore of the last ones", x.claimBefore(t - 1, e - 1, 0), 1);
                Check.same("claimTogether of the last ones", x.claimTogether(t - 1, 0, e - 1), 2);
                Check.refused(x, "claimHours of no teller", Check.INDEX, () -> x.claimHours(t, 0, 0, 99));
                Check.refused(x, "claimHours of no event", Check.INDEX, () -> x.claimHours(0, e, 0, 99));
                Check.refused(x, "claimBefore of no teller", Check.INDEX, () -> x.claimBefore(t, 0, 1));
                Check.refused(x, "claimBefore of no event", Check.INDEX, () -> x.claimBefore(0, e, 1));
                Check.refused(x, "claimBefore of no other one", Check.INDEX, () -> x.claimBefore(0, 1, e));
                Check.refused(x, "claimTogether of no teller", Check.INDEX, () -> x.claimTogether(t, 0, 1));
                Check.refused(x, "claimTogether of no event", Check.INDEX, () -> x.claimTogether(0, e, 1));
                Check.refused(x, "claimTogether of no other one", Check.INDEX, () -> x.claimTogether(0, 1, e));
                for (int n : Text.NEVER) {
                    Check.refused(x, "claimHours(" + n + ", 0, 0, 0)", Check.INDEX, () -> x.claimHours(n, 0, 0, 0));
                    Check.refused(x, "claimHours(0, " + n + ", 0, 0)", Check.INDEX, () -> x.claimHours(0, n, 0, 0));
                    Check.refused(x, "claimBefore(0, 0, " + n + ")", Check.INDEX, () -> x.claimBefore(0, 0, n));
                    Check.refused(x, "claimTogether(0, " + n + ", 0)", Check.INDEX, () -> x.claimTogether(0, n, 0));
                }
                Check.same("claims() behind them", x.claims(), 3);
            }
        }
        StoryTapestry noTeller = Text.told(2, 0);
        Check.refused(noTeller, "claimHours without tellers", Check.INDEX, () -> noTeller.claimHours(0, 0, 0, 0));
        StoryTapestry noEvent = Text.told(0, 1);
        Check.refused(noEvent, "claimBefore without events", Check.INDEX, () -> noEvent.claimBefore(0, 0, 0));
        StoryTapestry oneEvent = Text.told(1, 1);
        Check.refused(oneEvent, "claimTogether with one event", Check.ARGUMENT, () -> oneEvent.claimTogether(0, 0, 0));
    }

    /** "IllegalArgumentException if both events are the same" */
    private static void bothEventsAreNotTheSame() {
        for (int a = 0; a < 8; a++) {
            StoryTapestry x = Text.told(8, 1);
            int due = 0;
            for (int b = 0; b < 8; b++) {
                int event = a;
                int other = b;
                if (a == b) {
                    Check.refused(x, "claimBefore(0, twice " + a + ")", Check.ARGUMENT, () -> x.claimBefore(0, event, other));
                    Check.refused(x, "claimTogether(0, twice " + a + ")", Check.ARGUMENT, () -> x.claimTogether(0, event, other));
                    continue;
                }
                Check.same("claimBefore(0, " + a + ", " + b + ")", x.claimBefore(0, a, b), due);
                Check.same("claimTogether(0, " + a + ", " + b + ")", x.claimTogether(0, a, b), due + 1);
                Check.same("eventOf() of one before", x.eventOf(due), a);
                Check.same("secondEventOf() of one before", x.secondEventOf(due), b);
                Check.same("kindOf() of one before", x.kindOf(due), 1);
                Check.same("eventOf() of two together", x.eventOf(due + 1), a);
                Check.same("secondEventOf() of two together", x.secondEventOf(due + 1), b);
                Check.same("kindOf() of two together", x.kindOf(due + 1), 2);
                due += 2;
            }
        }
    }

    private static int claim(StoryTapestry x, int kind, int teller) {
        return kind == 0 ? x.claimHours(teller, 0, 5, 9) : kind == 1 ? x.claimBefore(teller, 0, 1) : x.claimTogether(teller, 1, 2);
    }

    /** "Returns the number of the claim." "IllegalStateException if there are 40 claims" */
    private static void numbersUpToForty() {
        for (int kind = 0; kind < 3; kind++) {
            StoryTapestry x = Text.told(3, 2);
            for (int n = 0; n < 40; n++) {
                Check.same("claim " + n + " from the kind " + kind + " on", claim(x, (kind + n) % 3, n % 2), n);
                Check.same("claims() behind it", x.claims(), n + 1);
            }
            for (int more = 0; more < 3; more++) {
                int late = more;
                Check.refused(x, "the 41st claim, of the kind " + more, Check.STATE, () -> claim(x, late, 0));
            }
            Check.same("claims() behind all", x.claims(), 40);
            Check.same("claimsOf(0)", x.claimsOf(0), 20);
        }
    }

    private static void fortyToldAhead() {
        for (int ahead = 38; ahead <= 40; ahead++) {
            StoryTapestry x = Check.taught(Text.events(3) + Text.tellers(2) + "tells t1 e2 at 7;".repeat(ahead));
            for (int n = ahead; n < 40; n++) {
                Check.same("claim " + n + " behind " + ahead, claim(x, n % 3, 0), n);
            }
            for (int kind = 0; kind < 3; kind++) {
                int late = kind;
                Check.refused(x, "the 41st claim behind " + ahead, Check.STATE, () -> claim(x, late, 1));
            }
            Check.same("teach() of another tapestry", Check.teach(x, Text.events(3) + Text.tellers(1)), 0);
            Check.same("the first claim behind it", claim(x, 1, 0), 0);
        }
    }

    private static void roomBehindTakeBack() {
        StoryTapestry x = Text.told(3, 2);
        for (int n = 0; n < 40; n++) {
            claim(x, n % 3, 0);
        }
        int[] takenBack = {39, 0, 20};
        for (int claim : takenBack) {
            Check.refused(x, "takeBack(40) of 40", Check.INDEX, () -> x.takeBack(40));
            Check.same("takeBack(" + claim + ") of 40", x.takeBack(claim), 0);
            Check.refused(x, "takeBack(39) of 39", Check.INDEX, () -> x.takeBack(39));
            Check.refused(x, "kindOf(39) of 39", Check.INDEX, () -> x.kindOf(39));
            Check.same("a 40th claim again", claim(x, 0, 0), 39);
            Check.refused(x, "a 41st claim again", Check.STATE, () -> claim(x, 0, 0));
        }
    }

    /** A tapestry of claims each of which is unlike the others, without the one of this number. */
    private static StoryTapestry unlike(int count, int without) {
        StoryTapestry x = Text.told(8, 10);
        for (int n = 0; n < count; n++) {
            if (n == without) {
                continue;
            }
            if (n % 3 == 0) {
                x.claimHours(n % 10, n % 8, n, n + 50);
            } else if (n % 3 == 1) {
                x.claimBefore(n % 10, n % 8, (n + 1 + n / 8) % 8);
            } else {
                x.claimTogether(n % 10, n % 8, (n + 1 + n / 8) % 8);
            }
        }
        return x;
    }

    /** "those with greater numbers have a number 1 less then" */
    private static void takeBackTheFirstToTheLast() {
        int[] counts = {1, 2, 3, 12, 40};
        for (int count : counts) {
            for (int claim = 0; claim < count; claim++) {
                StoryTapestry x = unlike(count, -1);
                StoryTapestry twin = unlike(count, claim);
                Check.same("takeBack(" + claim + ") of " + count, x.takeBack(claim), claim % 10);
                Check.same("claims() behind it", x.claims(), count - 1);
                Answers.same("answers behind takeBack(" + claim + ") of " + count, x, twin);
                Check.refused(x, "takeBack(" + (count - 1) + ") of one less", Check.INDEX, () -> x.takeBack(count - 1));
                Check.refused(x, "takeBack(-1)", Check.INDEX, () -> x.takeBack(-1));
            }
        }
    }

    /** "Returns its teller.", also of one who is doubted. */
    private static void takeBackTellsTheTeller() {
        StoryTapestry x = Text.told(1, 10);
        for (int teller = 0; teller < 10; teller++) {
            x.claimHours(9 - teller, 0, teller, 99);
        }
        x.turnDoubt(9);
        x.turnDoubt(0);
        for (int teller = 0; teller < 10; teller++) {
            Check.same("takeBack(0) of the teller " + (9 - teller), x.takeBack(0), 9 - teller);
        }
        Check.yes("isDoubted(9) behind it", x.isDoubted(9));
    }

    private static void takeBackUntilNone() {
        StoryTapestry x = Text.told(1, 2);
        StoryTapestry none = Text.told(1, 2);
        Check.refused(x, "takeBack(0) of none", Check.INDEX, () -> x.takeBack(0));
        x.claimHours(0, 0, 1, 1);
        x.claimHours(1, 0, 2, 2);
        x.takeBack(1);
        x.takeBack(0);
        Check.refused(x, "takeBack(0) of none again", Check.INDEX, () -> x.takeBack(0));
        Answers.same("answers behind all taken back", x, none);
        Check.same("a first claim again", x.claimHours(1, 0, 3, 3), 0);
    }

    /** "Doubts a teller, or believes this one, who is doubted." */
    private static void turnDoubtTwice() {
        for (int tellers = 1; tellers <= 10; tellers++) {
            String before = Answers.of(Text.told(1, tellers));
            int none = tellers;
            for (int teller = 0; teller < tellers; teller++) {
                StoryTapestry x = Text.told(1, tellers);
                Check.refused(x, "turnDoubt(" + tellers + ") of " + tellers, Check.INDEX, () -> x.turnDoubt(none));
                Check.refused(x, "turnDoubt(-1)", Check.INDEX, () -> x.turnDoubt(-1));
                Check.yes("turnDoubt(" + teller + ")", x.turnDoubt(teller));
                for (int other = 0; other < tellers; other++) {
                    Check.same("isDoubted(" + other + ") behind turnDoubt(" + teller + ")", x.isDoubted(other), other == teller);
                }
                Check.no("turnDoubt(" + teller + ") again", x.turnDoubt(teller));
                Check.same("answers behind it", Answers.of(x), before);
            }
        }
    }

    /** What is done by hand is no order that is carried out; an order then changes something, or does not. */
    private static void byHandAndByOrders() {
        StoryTapestry x = Check.taught(Text.tellers(3) + "doubt t0; believe t1; doubt t2;");
        x.turnDoubt(0);
        Check.same("ordersCarriedOut() behind turnDoubt", x.ordersCarriedOut(), 0);
        Check.same("passEvenings(1), one doubted by hand", x.passEvenings(1), 1);
        x.turnDoubt(1);
        x.turnDoubt(2);
        Check.same("passEvenings(1), turned by hand", x.passEvenings(1), 2);
        Check.same("passEvenings(1), nothing is changed", x.passEvenings(1), 0);
        Check.same("ordersCarriedOut()", x.ordersCarriedOut(), 3);
    }
}
