import java.util.List;
import java.util.Random;
import java.util.Set;

/** Tapestries and calls by lot, always the same ones, beside the Oracle. */
public final class OracleTest {
    private static final int RUNS = 600;
    private static final int MOST_CALLS = 512;

    private static final String[] PIECES = ("event teller tells at to before with doubt believe when evening liars conflicts doubted"
            + " claims window of contradict liar agreed not and or min max ( ) [ ] ; , + - * / < > = <= >= a b c t u 0 7 99 100 1234567"
            + " abcdefghijk #").split(" ");

    private final Random lot;
    private final StoryTapestry x = new StoryTapestry();
    private final Oracle due = new Oracle();
    private final String run;
    private int calls = 0;
    private int events;
    private int tellers;

    private OracleTest(int seed) {
        lot = new Random(seed);
        run = "run " + seed + ": ";
    }

    public static void main(String[] args) {
        for (int seed = 0; seed < RUNS; seed++) {
            OracleTest test = new OracleTest(seed);
            test.teach(seed % 3 == 0);
            test.goOn();
            test.teach(seed % 2 == 0);
            test.goOn();
        }
        Check.end();
    }

    private void teach(boolean spoilt) {
        String text = tapestry();
        if (spoilt) {
            text = spoil(text);
        }
        if (text.length() > 2000) {
            text = text.substring(0, 2000);
        }
        calls += (text.length() + 19) / 20 + 3;
        if (calls > MOST_CALLS) {
            return;
        }
        Check.same(run + "teach() of " + text, Check.teach(x, text), due.teach(text));
        Check.same(run + "errorAt() of " + text, x.errorAt(), due.errorAt);
    }

    private String spoil(String text) {
        StringBuilder spoilt = new StringBuilder(text);
        for (int n = lot.nextInt(2); n >= 0; n--) {
            int at = lot.nextInt(spoilt.length() + 1);
            int end = Math.min(spoilt.length(), at + lot.nextInt(8));
            switch (lot.nextInt(6)) {
                case 0:
                case 1:
                    spoilt.insert(spoilt.indexOf(";", at) + 1, one("", "event e0;", "teller t1;", "tells t2 e7 at 3;", "doubt t7;"));
                    break;
                case 2:
                    spoilt.insert(spoilt.indexOf(";", at) + 1, " " + line() + ";");
                    break;
                case 3:
                    spoilt.insert(at, " " + one(PIECES) + " ");
                    break;
                case 4:
                    spoilt.replace(at, end, lot.nextBoolean() ? "" : " " + one(PIECES) + " ");
                    break;
                default:
                    spoilt.insert(at, spoilt.substring(at, Math.min(spoilt.length(), at + lot.nextInt(60))));
                    break;
            }
        }
        return spoilt.toString();
    }

    private String one(String... texts) {
        return texts[lot.nextInt(texts.length)];
    }

    private String tapestry() {
        StringBuilder text = new StringBuilder();
        events = lot.nextInt(50) == 0 ? 9 : lot.nextInt(3) == 0 ? 1 + lot.nextInt(8) : 2 + lot.nextInt(3);
        tellers = lot.nextInt(50) == 0 ? 11 : 1 + lot.nextInt(10);
        for (int n = 0; n < events; n++) {
            text.append("event e").append(n).append(one(";", " ; ", ";\n"));
        }
        for (int n = 0; n < tellers; n++) {
            text.append("teller t").append(n).append(one(";", " ; ", ";\n"));
        }
        int many = lot.nextInt(50) == 0 ? 42 : lot.nextInt(24);
        for (int n = 0; n < many; n++) {
            text.append(claim()).append(";");
        }
        int orders = lot.nextInt(30) == 0 ? 17 : lot.nextInt(7);
        for (int n = 0; n < orders; n++) {
            text.append(one("doubt ", "believe ")).append(teller());
            text.append(many > 40 || orders > 16 || lot.nextInt(4) == 0 ? "" : " when " + test(lot.nextInt(4))).append(";");
        }
        return text.toString();
    }

    private String line() {
        return lot.nextBoolean() ? claim() : one("doubt ", "believe ") + teller() + " when " + test(2);
    }

    private String event() {
        return "e" + lot.nextInt(lot.nextInt(500) == 0 ? 10 : events);
    }

    private String teller() {
        return "t" + lot.nextInt(lot.nextInt(500) == 0 ? 12 : tellers);
    }

    private String claim() {
        String event = event();
        String start = "tells " + teller() + " " + event;
        if (lot.nextInt(2) == 0) {
            String other = event();
            for (int n = 0; n < 5 && other.equals(event); n++) {
                other = event();
            }
            return start + one(" before ", " before ", " with ") + other;
        }
        int first = lot.nextInt(lot.nextInt(100) == 0 ? 120 : 30);
        int last = first + lot.nextInt(lot.nextInt(20) == 0 ? 70 : 12) - (lot.nextInt(100) == 0 ? 3 : 0);
        return start + " at " + first + (lot.nextBoolean() ? "" : " to " + Math.max(0, last));
    }

    private String test(int size) {
        switch (size <= 0 ? lot.nextInt(5) : lot.nextInt(10)) {
            case 0:
                return "contradict " + teller() + " " + teller();
            case 1:
                return "liar " + teller();
            case 2:
                return "doubted " + teller();
            case 3:
                return "agreed " + event();
            case 4:
            case 5:
                return sum(size) + one("<", ">", "=", "<=", ">= ", " = ") + sum(size);
            case 6:
                return "not " + test(size - 1);
            case 7:
                return "[" + test(size - 1) + "]";
            default:
                return test(size - 1) + one(" and ", " or ") + test(size - 1);
        }
    }

    private String sum(int size) {
        switch (size <= 0 ? lot.nextInt(7) : lot.nextInt(13)) {
            case 0:
                return "" + lot.nextInt(12);
            case 1:
                return one("999999", "65536", "32768", "0", "1");
            case 2:
                return "evening";
            case 3:
                return "liars";
            case 4:
                return "conflicts";
            case 5:
                return "claims of " + teller();
            case 6:
                return "window of " + event();
            case 7:
                return "-" + sum(size - 1);
            case 8:
                return "(" + sum(size - 1) + ")";
            case 9:
                return one("min", "max") + "(" + sum(size - 1) + "," + sum(size - 1) + ")";
            default:
                return sum(size - 1) + one("+", "-", "*", "/", " - ", " / ") + sum(size - 1);
        }
    }

    private void goOn() {
        look();
        for (int n = 0; n < 6 && calls + 140 < MOST_CALLS; n++) {
            act();
            look();
        }
    }

    private void act() {
        int tellers = due.tellers.size();
        int events = due.events.size();
        calls++;
        int choice = lot.nextInt(6);
        if (choice == 0 && tellers > 0) {
            int teller = lot.nextInt(tellers);
            boolean doubts = due.doubted.add(teller) || !due.doubted.remove(teller);
            Check.same(run + "turnDoubt(" + teller + ")", x.turnDoubt(teller), doubts);
        } else if (choice == 1 && !due.claims.isEmpty()) {
            int claim = lot.nextInt(due.claims.size());
            Check.same(run + "takeBack(" + claim + ")", x.takeBack(claim), due.claims.remove(claim).teller);
        } else if (choice < 5 && tellers > 0 && events > 1 && due.claims.size() < 40) {
            claimByHand(tellers, events);
        } else {
            int many = 1 + lot.nextInt(4);
            int before = due.carriedOut;
            for (int n = 0; n < many; n++) {
                due.passEvening();
            }
            Check.same(run + "passEvenings(" + many + ")", x.passEvenings(many), due.carriedOut - before);
        }
    }

    private void claimByHand(int tellers, int events) {
        Oracle.Claim claim = new Oracle.Claim();
        claim.teller = lot.nextInt(tellers);
        claim.kind = lot.nextInt(3);
        claim.event = lot.nextInt(events);
        claim.first = claim.kind == 0 ? lot.nextInt(100) : (claim.event + 1 + lot.nextInt(events - 1)) % events;
        claim.last = claim.kind == 0 ? claim.first + lot.nextInt(100 - claim.first) : 0;
        int number = due.claims.size();
        due.claims.add(claim);
        int got = claim.kind == 0 ? x.claimHours(claim.teller, claim.event, claim.first, claim.last)
                : claim.kind == 1 ? x.claimBefore(claim.teller, claim.event, claim.first)
                : x.claimTogether(claim.teller, claim.event, claim.first);
        Check.same(run + "a claim of the kind " + claim.kind, got, number);
    }

    private void look() {
        if (calls + 120 > MOST_CALLS) {
            return;
        }
        calls += 12;
        Check.same(run + "events()", x.events(), due.events.size());
        Check.same(run + "tellers()", x.tellers(), due.tellers.size());
        Check.same(run + "claims()", x.claims(), due.claims.size());
        Check.same(run + "evenings()", x.evenings(), due.evenings);
        Check.same(run + "ordersCarriedOut()", x.ordersCarriedOut(), due.carriedOut);
        Check.same(run + "contradictions()", x.contradictions(), due.contradictions());
        Check.same(run + "bestToDoubt()", x.bestToDoubt(), due.bestToDoubt());
        double mean = due.tellers.isEmpty() ? 0.0 : (double) due.claims.size() / due.tellers.size();
        Check.same(run + "meanClaims()", x.meanClaims(), mean);
        lookAhead();
        lookAtTellers();
        lookAtEvents();
        lookAtClaims();
    }

    private void lookAhead() {
        int many = 1 + lot.nextInt(5);
        int until = due.liarSet().isEmpty() ? 0 : -1;
        Oracle twin = due.twin();
        for (int n = 1; n <= 30; n++) {
            twin.passEvening();
            int liars = n == many || until < 0 ? twin.liarSet().size() : -1;
            until = until < 0 && liars == 0 ? n : until;
            if (n == many) {
                Check.same(run + "liarsAfter(" + many + ")", x.liarsAfter(many), liars);
            }
            if (n >= many && (until >= 0 || due.orders.isEmpty())) {
                break;
            }
        }
        Check.same(run + "eveningsUntilOneStory()", x.eveningsUntilOneStory(), until);
    }

    private void lookAtTellers() {
        List<Set<Integer>> sets = due.smallest();
        Check.same(run + "liars()", x.liars(), sets.get(0).size());
        Check.same(run + "smallestSets()", x.smallestSets(), sets.size());
        calls += 2;
        for (int teller = 0; teller < due.tellers.size(); teller++) {
            int other = lot.nextInt(due.tellers.size());
            calls += 5;
            Check.same(run + "claimsOf(" + teller + ")", x.claimsOf(teller), due.claimsOf(teller));
            Check.same(run + "isDoubted(" + teller + ")", x.isDoubted(teller), due.doubted.contains(teller));
            Check.same(run + "isLiar(" + teller + ")", x.isLiar(teller), sets.get(0).contains(teller));
            Check.same(run + "doContradict(" + teller + ", " + other + ")", x.doContradict(teller, other), due.doContradict(teller, other));
            Check.same(run + "contraryPairs(" + teller + ", " + other + ")", x.contraryPairs(teller, other), due.contraryPairs(teller, other));
        }
    }

    private void lookAtEvents() {
        List<Integer> order = due.order();
        Check.same(run + "hasOrder()", x.hasOrder(), order != null);
        calls++;
        for (int n = 0; n < due.events.size(); n++) {
            int event = n;
            List<Integer> hours = due.window(event);
            boolean agreed = !hours.isEmpty();
            String none = "throws java.lang.IllegalStateException";
            calls += 4;
            Check.same(run + "isAgreed(" + event + ")", x.isAgreed(event), agreed);
            Check.same(run + "windowFrom(" + event + ")", Check.outcome(() -> x.windowFrom(event)), agreed ? hours.get(0) : none);
            Check.same(run + "windowTo(" + event + ")", Check.outcome(() -> x.windowTo(event)),
                    agreed ? hours.get(hours.size() - 1) : none);
            Check.same(run + "eventAt(" + event + ")", Check.outcome(() -> x.eventAt(event)), order != null ? order.get(event) : none);
        }
    }

    private void lookAtClaims() {
        if (due.claims.isEmpty()) {
            return;
        }
        int a = lot.nextInt(due.claims.size());
        int b = lot.nextInt(due.claims.size());
        Oracle.Claim claim = due.claims.get(a);
        String none = "throws java.lang.IllegalStateException";
        calls += 7;
        Check.same(run + "tellerOf(" + a + ")", x.tellerOf(a), claim.teller);
        Check.same(run + "kindOf(" + a + ")", x.kindOf(a), claim.kind);
        Check.same(run + "eventOf(" + a + ")", x.eventOf(a), claim.event);
        Check.same(run + "secondEventOf(" + a + ")", Check.outcome(() -> x.secondEventOf(a)), claim.kind != 0 ? claim.first : none);
        Check.same(run + "firstHourOf(" + a + ")", Check.outcome(() -> x.firstHourOf(a)), claim.kind == 0 ? claim.first : none);
        Check.same(run + "lastHourOf(" + a + ")", Check.outcome(() -> x.lastHourOf(a)), claim.kind == 0 ? claim.last : none);
        Check.same(run + "areContrary(" + a + ", " + b + ")", x.areContrary(a, b), due.areContrary(claim, due.claims.get(b)));
    }
}
