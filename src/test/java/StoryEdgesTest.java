/**
 * "2. Claims and liars" and the promises 1 and 6 to 30: the sentences that name a boundary case stand over their tests, each of
 * which asks on the boundary, short of it and past it.
 */
public final class StoryEdgesTest {
    public static void main(String[] args) {
        aNewObject();
        fiveHundredAndTwelveCalls();
        allBeginsAnew();
        allStaysWithAnError();
        countsFromNoneToFull();
        kindsAndTheirNumbers();
        oneHourIsFirstAndLast();
        secondEventsAndHoursByKind();
        noHourInCommon();
        hoursOfOtherEvents();
        beforeAndTogether();
        believedAtFirst();
        doubtedTellersDoNotCount();
        twoOwnClaimsMakeContrary();
        pairsOfTwoClaims();
        everySetOfContradictions();
        theFirstTellersAreSpared();
        liarsOfNoneToAll();
        manySmallestSets();
        windowsFromNoneToAll();
        windowsOfLiarsAndDoubted();
        noSuchHour();
        orderOfNoneToEight();
        ordersThatThereAreNot();
        orderOfTruthfulTellersAlone();
        Check.end();
    }

    /** "Creates a tapestry without events, tellers and orders, ahead of the evening 0." */
    private static void aNewObject() {
        StoryTapestry x = new StoryTapestry();
        int[] none = {x.events(), x.tellers(), x.claims(), x.evenings(), x.ordersCarriedOut(), x.contradictions(), x.liars()};
        for (int n = 0; n < none.length; n++) {
            Check.same("count " + n + " of a new object", none[n], 0);
        }
        Check.same("smallestSets() of a new object, the empty one", x.smallestSets(), 1);
        Check.yes("hasOrder() of a new object", x.hasOrder());
        Check.refused(x, "eventAt(0) of a new object", Check.INDEX, () -> x.eventAt(0));
        Check.refused(x, "eventAt(-1) of a new object", Check.INDEX, () -> x.eventAt(-1));
        Check.same("meanClaims() of a new object", x.meanClaims(), 0.0);
        Check.same("bestToDoubt() of a new object", x.bestToDoubt(), -1);
        Check.same("eveningsUntilOneStory() of a new object", x.eveningsUntilOneStory(), 0);
        Check.same("passEvenings(30) of a new object", x.passEvenings(30), 0);
        Check.same("evenings() behind it", x.evenings(), 30);
        Check.same("two new objects are of their own", new StoryTapestry().evenings(), 0);
    }

    /** "An object is used for at most 512 calls after it has been made" */
    private static void fiveHundredAndTwelveCalls() {
        StoryTapestry x = new StoryTapestry();
        String text = Text.events(2) + Text.tellers(3) + "tells t0 e0 at 3; tells t1 e0 at 4; doubt t2 when evening = 400;";
        Check.write(x, text);
        int calls = (text.length() + 19) / 20 + 1;
        Check.same("teach()", x.teach(), 0);
        calls++;
        for (; calls < 510; calls += 2) {
            Check.same("claimHours at the call " + calls, x.claimHours(2, 1, calls % 100, 99), 2);
            Check.same("takeBack at the call " + calls, x.takeBack(2), 2);
        }
        Check.same("liars()", x.liars(), 1);
        StoryTapestry twin = Check.taught(text);
        Check.same("digest() of the last call", x.digest(), twin.digest());
    }

    /** "Reads the tape as a tapestry, in the place of all that was told before; all begins anew." */
    private static void allBeginsAnew() {
        String first = Text.events(3) + Text.tellers(3) + "tells t0 e0 at 3; tells t1 e0 at 4; tells t2 e1 before e2; doubt t1; believe t0;";
        String[] texts = {"", "event q;", "teller q;", first, "event q; teller r; tells r q at 99; doubt r when evening = 1;",
            Text.events(8) + Text.tellers(10) + "doubt t9; doubt t0 when claims of t9 = 0;"};
        for (String text : texts) {
            StoryTapestry x = Check.taught(first);
            x.passEvenings(5);
            x.turnDoubt(0);
            x.turnDoubt(2);
            x.claimTogether(1, 0, 1);
            x.takeBack(0);
            StoryTapestry twin = Check.taught(text);
            Check.same("teach() of " + text, Check.teach(x, text), 0);
            Check.same("evenings() behind it", x.evenings(), 0);
            Check.same("ordersCarriedOut() behind it", x.ordersCarriedOut(), 0);
            Answers.same("answers behind teach() of " + text, x, twin);
            Check.same("passEvenings(2) behind it", x.passEvenings(2), twin.passEvenings(2));
            Answers.same("answers behind two evenings of " + text, x, twin);
        }
    }

    /** "If it has an error, all stays (but the tape is empty)." "Returns 0, or the error, 1 to 5." */
    private static void allStaysWithAnError() {
        String first = Text.events(3) + Text.tellers(3) + "tells t0 e0 at 3; tells t1 e0 at 4; tells t2 e1 before e2;"
                + "doubt t1 when evening = 3; believe t0; doubt t2 when evening / 2 * 2 = evening; believe t2;";
        String[] wrong = {"event q; teller r; doubt r", "event q; teller r; doubt r; event q;", "event q; teller r; doubt r; doubt q;",
            Text.tellers(10) + "doubt t9; teller t10;", "event q; teller r; doubt r; tells r q at 100;"};
        for (int n = 0; n < wrong.length; n++) {
            StoryTapestry x = Check.taught(first);
            x.passEvenings(2);
            x.turnDoubt(0);
            x.claimHours(2, 2, 0, 99);
            StoryTapestry twin = Check.taught(first);
            twin.passEvenings(2);
            twin.turnDoubt(0);
            twin.claimHours(2, 2, 0, 99);
            String before = Answers.of(twin);
            Check.same("teach() of " + wrong[n], Check.teach(x, wrong[n]), n + 1);
            Check.same("answers behind " + wrong[n], Answers.of(x), before.replace("error at -1", "error at " + x.errorAt()));
            Check.same("passEvenings(3) behind it", x.passEvenings(3), twin.passEvenings(3));
            Check.same("digest() behind them", x.digest(), twin.digest());
        }
    }

    /** "Returns how many events (tellers, claims) there are.": none, some and as many as there can be. */
    private static void countsFromNoneToFull() {
        for (int events = 0; events <= 8; events++) {
            for (int tellers = 0; tellers <= 10; tellers++) {
                StoryTapestry x = Text.told(events, tellers);
                Check.same("events() of " + events, x.events(), events);
                Check.same("tellers() of " + tellers, x.tellers(), tellers);
                Check.same("claims() of none", x.claims(), 0);
                Check.same("liars() without claims", x.liars(), 0);
                Check.same("smallestSets() without claims", x.smallestSets(), 1);
            }
        }
        StoryTapestry x = Text.told(1, 1);
        for (int claims = 1; claims <= 40; claims++) {
            x.claimHours(0, 0, 0, 99);
            Check.same("claims() of " + claims, x.claims(), claims);
            Check.same("claimsOf(0) of " + claims, x.claimsOf(0), claims);
        }
    }

    /** "Claims are of three kinds: 0, [..]; 1, an event was before another one; 2, an event was together with another one." */
    private static void kindsAndTheirNumbers() {
        String text = Text.events(8) + Text.tellers(10) + "tells t9 e7 at 99; tells t0 e0 before e7; tells t9 e7 with e0;";
        StoryTapestry x = Check.taught(text + "tells t0 e0 at 0;".repeat(36) + "tells t9 e6 with e7;");
        int[][] due = {{0, 9, 0, 7}, {1, 0, 1, 0}, {2, 9, 2, 7}, {3, 0, 0, 0}, {38, 0, 0, 0}, {39, 9, 2, 6}};
        for (int[] claim : due) {
            Check.same("tellerOf(" + claim[0] + ")", x.tellerOf(claim[0]), claim[1]);
            Check.same("kindOf(" + claim[0] + ")", x.kindOf(claim[0]), claim[2]);
            Check.same("eventOf(" + claim[0] + ")", x.eventOf(claim[0]), claim[3]);
        }
        Check.refused(x, "tellerOf(40)", Check.INDEX, () -> x.tellerOf(40));
        Check.refused(x, "kindOf(-1)", Check.INDEX, () -> x.kindOf(-1));
    }

    /** "from a first one to a last one, 0 to 99 (the same one, if just one is told)" */
    private static void oneHourIsFirstAndLast() {
        for (int hour = 0; hour <= 99; hour++) {
            StoryTapestry x = Check.taught("event e; teller t; tells t e at " + hour + "; tells t e at 0 to " + hour + "; tells t e at " + hour
                    + " to 99;");
            int[] due = {hour, hour, 0, hour, hour, 99};
            for (int n = 0; n < 3; n++) {
                Check.same("firstHourOf(" + n + ") at " + hour, x.firstHourOf(n), due[2 * n]);
                Check.same("lastHourOf(" + n + ") at " + hour, x.lastHourOf(n), due[2 * n + 1]);
            }
        }
    }

    /** "IllegalStateException if it is of the kind 0", "if it is not of the kind 0" */
    private static void secondEventsAndHoursByKind() {
        StoryTapestry x = Text.told(8, 1);
        x.claimHours(0, 7, 0, 0);
        x.claimBefore(0, 7, 0);
        x.claimTogether(0, 0, 7);
        Check.refused(x, "secondEventOf(0)", Check.STATE, () -> x.secondEventOf(0));
        Check.same("secondEventOf(1)", x.secondEventOf(1), 0);
        Check.same("secondEventOf(2)", x.secondEventOf(2), 7);
        Check.same("firstHourOf(0)", x.firstHourOf(0), 0);
        Check.same("lastHourOf(0)", x.lastHourOf(0), 0);
        for (int n = 1; n <= 2; n++) {
            int claim = n;
            Check.refused(x, "firstHourOf(" + claim + ")", Check.STATE, () -> x.firstHourOf(claim));
            Check.refused(x, "lastHourOf(" + claim + ")", Check.STATE, () -> x.lastHourOf(claim));
        }
        Check.refused(x, "secondEventOf(3)", Check.INDEX, () -> x.secondEventOf(3));
        Check.refused(x, "firstHourOf(3)", Check.INDEX, () -> x.firstHourOf(3));
        Check.refused(x, "lastHourOf(-1)", Check.INDEX, () -> x.lastHourOf(-1));
    }

    /** "if both are of the kind 0, for the same event, and have no hour in common": all hours of 0 to 3 and of 96 to 99. */
    private static void noHourInCommon() {
        StoryTapestry x = Text.told(1, 2);
        int[][] hours = new int[20][];
        for (int first = 0, n = 0; first < 4; first++) {
            for (int last = first; last < 4; last++, n++) {
                hours[n] = new int[] {first, last};
                hours[n + 10] = new int[] {first + 96, last + 96};
            }
        }
        for (int n = 0; n < hours.length; n++) {
            x.claimHours(n % 2, 0, hours[n][0], hours[n][1]);
        }
        for (int a = 0; a < hours.length; a++) {
            for (int b = 0; b < hours.length; b++) {
                boolean common = false;
                for (int hour = 0; hour <= 99; hour++) {
                    common |= hours[a][0] <= hour && hour <= hours[a][1] && hours[b][0] <= hour && hour <= hours[b][1];
                }
                Check.same("areContrary() of " + hours[a][0] + " to " + hours[a][1] + " and " + hours[b][0] + " to " + hours[b][1],
                        x.areContrary(a, b), !common);
            }
        }
    }

    private static void hoursOfOtherEvents() {
        StoryTapestry x = Text.told(8, 1);
        for (int event = 0; event < 8; event++) {
            x.claimHours(0, event, 0, 0);
            x.claimHours(0, event, 1, 1);
        }
        for (int a = 0; a < 16; a++) {
            for (int b = 0; b < 16; b++) {
                Check.same("areContrary(" + a + ", " + b + ") of other events", x.areContrary(a, b), a / 2 == b / 2 && a != b);
            }
        }
    }

    /** "the one before the other, the other claim [..] the other way round", "for the same two events, in either order" */
    private static void beforeAndTogether() {
        StoryTapestry x = Text.told(3, 2);
        int[][] claims = new int[14][];
        int count = 0;
        for (int kind = 1; kind <= 2; kind++) {
            for (int a = 0; a < 3; a++) {
                for (int b = 0; b < 3; b++) {
                    if (a != b) {
                        int number = kind == 1 ? x.claimBefore(count % 2, a, b) : x.claimTogether(count % 2, a, b);
                        claims[number] = new int[] {kind, a, b};
                        count++;
                    }
                }
            }
        }
        claims[x.claimHours(0, 0, 1, 1)] = new int[] {0, 0, 1};
        claims[x.claimHours(1, 1, 0, 0)] = new int[] {0, 1, 0};
        for (int a = 0; a < 14; a++) {
            for (int b = 0; b < 14; b++) {
                int[] one = claims[a];
                int[] other = claims[b];
                boolean same = one[1] == other[1] && one[2] == other[2];
                boolean turned = one[1] == other[2] && one[2] == other[1];
                int kinds = one[0] * other[0];
                boolean due = kinds == 1 && turned || kinds == 2 && (same || turned);
                Check.same("areContrary(" + a + ", " + b + ") of events", x.areContrary(a, b), due);
            }
        }
    }

    /** "A teller is doubted, or believed (at first)." */
    private static void believedAtFirst() {
        StoryTapestry x = Text.told(0, 10);
        for (int teller = 0; teller < 10; teller++) {
            Check.no("isDoubted(" + teller + ") at first", x.isDoubted(teller));
            Check.no("isLiar(" + teller + ") at first", x.isLiar(teller));
            Check.no("doContradict() of " + teller + " and this one at first", x.doContradict(teller, teller));
            Check.yes("turnDoubt(" + teller + ")", x.turnDoubt(teller));
            Check.yes("isDoubted(" + teller + ") behind it", x.isDoubted(teller));
        }
        Check.teach(x, Text.tellers(10));
        for (int teller = 0; teller < 10; teller++) {
            Check.no("isDoubted(" + teller + ") behind teach()", x.isDoubted(teller));
        }
    }

    /** "Claims of doubted tellers do not count at all in what follows.", for each set of doubted tellers of three. */
    private static void doubtedTellersDoNotCount() {
        for (int doubted = 0; doubted < 8; doubted++) {
            StoryTapestry x = Text.told(3, 3);
            StoryTapestry without = Text.told(3, 3);
            for (int teller = 0; teller < 3; teller++) {
                for (int n = 0; n < 2; n++) {
                    x.claimHours(teller, n, teller * 10 + n, 20 + teller + n);
                    x.claimBefore(teller, teller, (teller + 1 + n) % 3);
                }
                if ((doubted >> teller & 1) != 0) {
                    x.turnDoubt(teller);
                    without.turnDoubt(teller);
                } else {
                    for (int n = 0; n < 2; n++) {
                        without.claimHours(teller, n, teller * 10 + n, 20 + teller + n);
                        without.claimBefore(teller, teller, (teller + 1 + n) % 3);
                    }
                }
            }
            String what = " with the doubted " + Text.members(doubted);
            for (int a = 0; a < 3; a++) {
                Check.same("isLiar(" + a + ")" + what, x.isLiar(a), without.isLiar(a));
                Check.same("windowFrom(" + a + ")" + what, Check.outcome(window(x, a)), Check.outcome(window(without, a)));
                Check.same("eventAt(" + a + ")" + what, Check.outcome(place(x, a)), Check.outcome(place(without, a)));
                for (int b = 0; b < 3; b++) {
                    Check.same("doContradict(" + a + ", " + b + ")" + what, x.doContradict(a, b), without.doContradict(a, b));
                }
            }
            Check.same("contradictions()" + what, x.contradictions(), without.contradictions());
            Check.same("liars()" + what, x.liars(), without.liars());
            Check.same("smallestSets()" + what, x.smallestSets(), without.smallestSets());
            Check.same("claimsOf(0), also of a doubted one," + what, x.claimsOf(0), 4);
        }
    }

    private static Check.Call window(StoryTapestry x, int event) {
        return () -> x.windowFrom(event) * 100 + x.windowTo(event);
    }

    private static Check.Call place(StoryTapestry x, int place) {
        return () -> x.eventAt(place);
    }

    /** "A teller who is believed is contrary, if two claims of this teller contradict each other." */
    private static void twoOwnClaimsMakeContrary() {
        StoryTapestry x = Text.told(2, 10);
        for (int teller = 0; teller < 10; teller += 9) {
            x.claimHours(teller, 0, 5, 9);
            Check.no("doContradict() of " + teller + " with one claim", x.doContradict(teller, teller));
            x.claimHours(teller, 0, 9, 12);
            Check.no("doContradict() of " + teller + " with claims that agree", x.doContradict(teller, teller));
            Check.same("liars() with claims that agree", x.liars(), 0);
            int last = x.claimHours(teller, 0, 13, 13);
            Check.yes("doContradict() of " + teller + " who is contrary", x.doContradict(teller, teller));
            Check.yes("isLiar(" + teller + ") who is contrary", x.isLiar(teller));
            Check.same("contradictions() of one who is contrary", x.contradictions(), 0);
            Check.same("smallestSets() of one who is contrary", x.smallestSets(), 1);
            x.turnDoubt(teller);
            Check.no("doContradict() of " + teller + ", doubted", x.doContradict(teller, teller));
            x.turnDoubt(teller);
            x.takeBack(last);
            Check.no("doContradict() of " + teller + " with one claim less", x.doContradict(teller, teller));
            x.takeBack(1);
            x.takeBack(0);
        }
    }

    /** "one of each of them, also of doubted ones; for the same one, how many pairs of two own ones" */
    private static void pairsOfTwoClaims() {
        for (int own = 0; own <= 6; own++) {
            for (int others = 0; others <= 6; others++) {
                StoryTapestry x = Text.told(1, 3);
                for (int n = 0; n < own; n++) {
                    x.claimHours(0, 0, n, n);
                }
                for (int n = 0; n < others; n++) {
                    x.claimHours(2, 0, 10 + n, 10 + n);
                }
                for (int round = 0; round < 2; round++) {
                    Check.same("contraryPairs(0, 2)", x.contraryPairs(0, 2), own * others);
                    Check.same("contraryPairs(2, 0)", x.contraryPairs(2, 0), own * others);
                    Check.same("contraryPairs(0, 0)", x.contraryPairs(0, 0), own * (own - 1) / 2);
                    Check.same("contraryPairs(2, 2)", x.contraryPairs(2, 2), others * (others - 1) / 2);
                    Check.same("contraryPairs(0, 1)", x.contraryPairs(0, 1), 0);
                    Check.same("contraryPairs(1, 1)", x.contraryPairs(1, 1), 0);
                    x.turnDoubt(0);
                    x.turnDoubt(2);
                }
            }
        }
        StoryTapestry full = Text.told(1, 2);
        for (int n = 0; n < 40; n++) {
            full.claimHours(n / 20, 0, n, n);
        }
        Check.same("contraryPairs(0, 1) of 40 claims", full.contraryPairs(0, 1), 400);
        Check.same("contraryPairs(1, 1) of 40 claims", full.contraryPairs(1, 1), 190);
        Check.same("contradictions() of 40 claims", full.contradictions(), 1);
    }

    /** Lets the teller a contradict the teller b (the same one can be both), by two events that no other pair is told of. */
    private static void contradict(StoryTapestry x, int pair, int a, int b) {
        int first = 0;
        int second = 1;
        for (int n = 0; n < pair; n++) {
            second++;
            if (second == 8) {
                first++;
                second = first + 1;
            }
        }
        x.claimBefore(a, first, second);
        x.claimTogether(b, second, first);
    }

    /** The liars by the document's words, for the tellers' contradictions (the bit of a teller's own: contrary). */
    private static int[] liarsAndSets(int[] against, int believed) {
        int fewest = 99;
        int sets = 0;
        int liars = 0;
        for (int set = 0; set < 1 << against.length; set++) {
            boolean enough = (set & ~believed) == 0;
            for (int a = 0; a < against.length && enough; a++) {
                for (int b = 0; b < against.length; b++) {
                    boolean both = (believed >> a & believed >> b & against[a] >> b & 1) != 0;
                    enough &= !both || (set >> a & 1) != 0 || (set >> b & 1) != 0;
                }
            }
            int size = Integer.bitCount(set);
            if (enough && size <= fewest) {
                sets = size < fewest ? 1 : sets + 1;
                liars = size < fewest || spares(set, liars) ? set : liars;
                fewest = size;
            }
        }
        return new int[] {liars, sets};
    }

    /** Whether of two sets the one spares the first teller who is in just one of them. */
    private static boolean spares(int set, int other) {
        for (int teller = 0; teller < 31; teller++) {
            if ((set >> teller & 1) != (other >> teller & 1)) {
                return (set >> teller & 1) == 0;
            }
        }
        return false;
    }

    /** "A set of believed tellers is enough, if [..]", for all that four tellers can contradict. */
    private static void everySetOfContradictions() {
        for (int graph = 0; graph < 1024; graph++) {
            StoryTapestry x = Text.told(8, 4);
            int[] against = new int[4];
            int pairs = 0;
            int told = 0;
            for (int a = 0, bit = 0; a < 4; a++) {
                for (int b = a; b < 4; b++, bit++) {
                    if ((graph >> bit & 1) != 0) {
                        contradict(x, told, a, b);
                        told++;
                        against[a] |= 1 << b;
                        against[b] |= 1 << a;
                        pairs += a == b ? 0 : 1;
                    }
                }
            }
            Check.same("contradictions() of the graph " + graph, x.contradictions(), pairs);
            int doubted = graph * 7 >> 2 & 15;
            sameLiars("the graph " + graph, x, against, 0);
            for (int teller = 0; teller < 4; teller++) {
                if ((doubted >> teller & 1) != 0) {
                    x.turnDoubt(teller);
                }
            }
            sameLiars("the graph " + graph + " with doubts", x, against, doubted);
        }
    }

    private static void sameLiars(String what, StoryTapestry x, int[] against, int doubted) {
        int[] due = liarsAndSets(against, (1 << against.length) - 1 & ~doubted);
        int seen = 0;
        for (int teller = 0; teller < against.length; teller++) {
            seen |= x.isLiar(teller) ? 1 << teller : 0;
        }
        Check.same("the liars of " + what, Text.members(seen), Text.members(due[0]));
        Check.same("liars() of " + what, x.liars(), Integer.bitCount(due[0]));
        Check.same("smallestSets() of " + what, x.smallestSets(), due[1]);
    }

    /** "that in which the teller 0 is not, if there is such a one; of these, that in which the teller 1 is not, [..]; and so on" */
    private static void theFirstTellersAreSpared() {
        for (int a = 0; a < 10; a++) {
            for (int b = a + 1; b < 10; b++) {
                StoryTapestry x = Text.told(8, 10);
                contradict(x, 0, b, a);
                Check.yes("isLiar(" + b + ") of " + a + " and " + b, x.isLiar(b));
                Check.no("isLiar(" + a + ") of " + a + " and " + b, x.isLiar(a));
                Check.same("smallestSets() of " + a + " and " + b, x.smallestSets(), 2);
                x.turnDoubt(b);
                Check.no("isLiar(" + b + ") who is doubted", x.isLiar(b));
                Check.same("liars() with one doubted", x.liars(), 0);
            }
        }
        StoryTapestry path = Text.told(8, 10);
        contradict(path, 0, 9, 0);
        contradict(path, 1, 0, 8);
        contradict(path, 2, 8, 1);
        sameLiars("a path 9 0 8 1", path, new int[] {768, 256, 0, 0, 0, 0, 0, 0, 3, 1}, 0);
    }

    /** None, one, nine of ten who all contradict each other, and all ten who are contrary. */
    private static void liarsOfNoneToAll() {
        StoryTapestry x = Text.told(1, 10);
        Check.same("liars() of none", x.liars(), 0);
        for (int teller = 0; teller < 10; teller++) {
            x.claimHours(teller, 0, 10 * teller, 10 * teller + 9);
            Check.same("liars() of " + (teller + 1) + " against each other", x.liars(), teller);
            Check.same("smallestSets() of " + (teller + 1), x.smallestSets(), teller + 1);
            Check.same("contradictions() of " + (teller + 1), x.contradictions(), teller * (teller + 1) / 2);
            Check.no("isLiar(0) of " + (teller + 1), x.isLiar(0));
            Check.same("isLiar() of the last of " + (teller + 1), x.isLiar(teller), teller > 0);
        }
        for (int teller = 0; teller < 10; teller++) {
            x.claimHours(teller, 0, 99 - 10 * teller, 99 - 10 * teller);
            Check.yes("isLiar(" + teller + ") who is contrary", x.isLiar(teller));
        }
        Check.same("liars() of all", x.liars(), 10);
        Check.same("smallestSets() of all", x.smallestSets(), 1);
        for (int teller = 9; teller >= 0; teller--) {
            x.turnDoubt(teller);
            Check.same("liars() of " + teller, x.liars(), teller);
        }
        Check.same("smallestSets() of doubted ones alone", x.smallestSets(), 1);
    }

    /** Two threes and two pairs, each of which all contradict each other: 3 times 3 times 2 times 2 sets. */
    private static void manySmallestSets() {
        StoryTapestry x = Text.told(4, 10);
        int[] group = {0, 0, 0, 1, 1, 1, 2, 2, 3, 3};
        int[] against = new int[10];
        for (int a = 0; a < 10; a++) {
            x.claimHours(a, group[a], a, a);
            for (int b = 0; b < 10; b++) {
                against[a] |= a != b && group[a] == group[b] ? 1 << b : 0;
            }
        }
        Check.same("smallestSets() of threes and pairs", x.smallestSets(), 36);
        sameLiars("threes and pairs", x, against, 0);
        StoryTapestry pairs = Text.told(5, 10);
        for (int a = 0; a < 10; a++) {
            pairs.claimHours(a, a % 5, a, a);
        }
        Check.same("smallestSets() of five pairs", pairs.smallestSets(), 32);
        Check.same("liars() of five pairs", pairs.liars(), 5);
    }

    private static void window(String what, StoryTapestry x, int event, int from, int to) {
        boolean agreed = from <= to;
        Check.same("isAgreed() " + what, x.isAgreed(event), agreed);
        Check.same("windowFrom() " + what, Check.outcome(() -> x.windowFrom(event)), agreed ? from : "throws " + Check.STATE.getName());
        Check.same("windowTo() " + what, Check.outcome(() -> x.windowTo(event)), agreed ? to : "throws " + Check.STATE.getName());
    }

    /** "the hours [..] that are within all claims of the kind 0 for it of believed tellers [..] (0 to 99, if there is none)" */
    private static void windowsFromNoneToAll() {
        int[] edges = {0, 1, 2, 49, 50, 97, 98, 99};
        for (int first : edges) {
            for (int last : edges) {
                if (first > last) {
                    continue;
                }
                StoryTapestry x = Text.told(8, 2);
                window("of none", x, 7, 0, 99);
                x.claimHours(0, 7, first, last);
                window("of " + first + " to " + last, x, 7, first, last);
                window("of another event", x, 0, 0, 99);
                x.claimHours(1, 7, 0, 99);
                x.claimBefore(1, 7, 0);
                x.claimTogether(1, 6, 7);
                window("of more that says no more", x, 7, first, last);
                for (int hour : edges) {
                    int claim = x.claimHours(1, 7, hour, 99);
                    window("from " + hour + " on", x, 7, Math.max(first, hour), last);
                    x.takeBack(claim);
                    x.claimHours(1, 7, 0, hour);
                    window("up to " + hour, x, 7, first, Math.min(last, hour));
                    x.takeBack(claim);
                }
            }
        }
    }

    /** "of believed tellers, liars as well" */
    private static void windowsOfLiarsAndDoubted() {
        StoryTapestry x = Text.told(2, 3);
        x.claimHours(0, 0, 5, 5);
        x.claimHours(1, 0, 6, 6);
        x.claimHours(1, 1, 10, 20);
        x.claimHours(2, 1, 20, 30);
        Check.yes("isLiar(1)", x.isLiar(1));
        window("of a liar and another one", x, 1, 20, 20);
        window("of two against each other", x, 0, 1, 0);
        x.turnDoubt(1);
        window("with one doubted", x, 1, 20, 30);
        window("with the other one alone", x, 0, 5, 5);
        x.turnDoubt(2);
        window("with all doubted", x, 1, 0, 99);
        x.turnDoubt(1);
        window("believed again", x, 1, 10, 20);
    }

    /** "It can be that there is no such hour; then it is not agreed on." */
    private static void noSuchHour() {
        for (int hour = 0; hour < 99; hour++) {
            StoryTapestry x = Text.told(1, 3);
            x.claimHours(0, 0, 0, hour);
            x.claimHours(1, 0, hour, 99);
            window("of the hour " + hour + " alone", x, 0, hour, hour);
            int last = x.claimHours(2, 0, hour + 1, 99);
            window("of no hour behind " + hour, x, 0, 1, 0);
            x.turnDoubt(2);
            window("with the last one doubted", x, 0, hour, hour);
            x.turnDoubt(2);
            window("with the last one believed", x, 0, 1, 0);
            x.takeBack(last);
            window("with the last one taken back", x, 0, hour, hour);
        }
        StoryTapestry far = Text.told(1, 2);
        far.claimHours(0, 0, 99, 99);
        far.claimHours(1, 0, 0, 0);
        window("of the first and the last hour", far, 0, 1, 0);
    }

    private static void order(String what, StoryTapestry x, String due) {
        Check.yes("hasOrder() " + what, x.hasOrder());
        StringBuilder seen = new StringBuilder();
        for (int place = 0; place < x.events(); place++) {
            seen.append(x.eventAt(place));
        }
        Check.same("the order " + what, seen.toString(), due);
        Check.refused(x, "eventAt() of the first place too far " + what, Check.INDEX, () -> x.eventAt(x.events()));
        Check.refused(x, "eventAt(-1) " + what, Check.INDEX, () -> x.eventAt(-1));
    }

    /** "at each place, from the first one on, stands the event with the smallest number of those that do not stand yet, [..]" */
    private static void orderOfNoneToEight() {
        for (int events = 0; events <= 8; events++) {
            StoryTapestry x = Text.told(events, 1);
            order("of " + events + " without claims", x, "01234567".substring(0, events));
            for (int n = 1; n < events; n++) {
                x.claimBefore(0, n, n - 1);
            }
            order("of " + events + " turned round", x, new StringBuilder("01234567".substring(0, events)).reverse().toString());
            Check.teach(x, Text.events(events) + Text.tellers(1));
            for (int n = 1; n < events; n++) {
                x.claimBefore(0, events - 1, n - 1);
            }
            order("of " + events + ", the last one first", x, (events > 0 ? events - 1 : "") + "01234567".substring(0, Math.max(0, events - 1)));
        }
        StoryTapestry x = Text.told(8, 2);
        x.claimBefore(0, 7, 0);
        x.claimBefore(1, 7, 0);
        x.claimBefore(1, 6, 7);
        x.claimTogether(1, 5, 1);
        x.claimHours(1, 1, 99, 99);
        order("of two chains", x, "12345670");
    }

    /** "If at some place there is none, there is no order." */
    private static void ordersThatThereAreNot() {
        for (int ring = 3; ring <= 8; ring++) {
            for (int first = 0; first + ring <= 8; first++) {
                StoryTapestry x = Text.told(8, 10);
                int last = -1;
                for (int n = 0; n < ring; n++) {
                    last = x.claimBefore(n, first + n, first + (n + 1) % ring);
                }
                Check.same("liars() of a ring", x.liars(), 0);
                Check.no("hasOrder() of a ring of " + ring + " from " + first, x.hasOrder());
                for (int n = 0; n < 8; n++) {
                    int place = n;
                    Check.refused(x, "eventAt(" + place + ") of a ring", Check.STATE, () -> x.eventAt(place));
                }
                Check.refused(x, "eventAt(8) of a ring", Check.INDEX, () -> x.eventAt(8));
                x.turnDoubt(ring - 1);
                order("of a ring with one doubted", x, "01234567");
                x.turnDoubt(ring - 1);
                Check.no("hasOrder() of a ring again", x.hasOrder());
                x.takeBack(last);
                order("of a ring that is one short", x, "01234567");
            }
        }
        StoryTapestry two = Text.told(8, 2);
        two.claimBefore(0, 3, 4);
        two.claimBefore(1, 4, 3);
        order("of two, one of whom is a liar", two, "01234567");
    }

    /** "by claims of the kind 1 of truthful tellers" */
    private static void orderOfTruthfulTellersAlone() {
        StoryTapestry x = Text.told(4, 4);
        x.claimBefore(0, 3, 2);
        x.claimBefore(1, 2, 1);
        x.claimBefore(1, 2, 3);
        x.claimBefore(2, 1, 0);
        Check.yes("isLiar(1)", x.isLiar(1));
        order("without the liar", x, "1032");
        x.turnDoubt(0);
        order("of the one who is none now", x, "2103");
        x.turnDoubt(1);
        order("without two doubted", x, "1023");
        x.turnDoubt(2);
        order("of nobody", x, "0123");
        StoryTapestry contrary = Text.told(3, 1);
        contrary.claimBefore(0, 2, 1);
        order("of one claim", contrary, "021");
        contrary.claimTogether(0, 1, 2);
        order("of one who is contrary", contrary, "012");
    }
}
