import java.util.ArrayList;
import java.util.Arrays;
import java.util.HashMap;
import java.util.LinkedHashSet;
import java.util.List;
import java.util.Map;
import java.util.Set;
import java.util.TreeSet;

/**
 * The document a second time, written in another way than the class: the grammar is a table that a general
 * recogniser walks, tests are cut at their weakest sign, and the liars are looked for among all sets.
 */
final class Oracle {
    /**
     * The depth d stands behind a name that carries it; N is one deeper. Rules that would be too deep are left out: then
     * the pair has none, so that of a min that is too deep the ( is the error, as the document names it, not the min.
     */
    private static final String[] GRAMMAR = {
        "tapestry = ", "tapestry = line ; tapestry",
        "line = event name", "line = teller name", "line = tells name claim", "line = act name", "line = act name when test0",
        "act = doubt", "act = believe",
        "claim = name at number", "claim = name at number to number", "claim = name before name", "claim = name with name",
        "testD = bothD", "testD = bothD or testD", "bothD = singleD", "bothD = singleD and bothD",
        "singleD = not singleN", "singleD = [ testN ]", "singleD = contradict name name", "singleD = liar name",
        "singleD = doubted name", "singleD = agreed name", "singleD = sumD compare sumD",
        "compare = <", "compare = >", "compare = =", "compare = <=", "compare = >=",
        "sumD = productD", "sumD = productD plus sumD", "plus = +", "plus = -",
        "productD = valueD", "productD = valueD by productD", "by = *", "by = /",
        "valueD = number", "valueD = evening", "valueD = liars", "valueD = conflicts", "valueD = claims of name",
        "valueD = window of name", "valueD = - valueN", "valueD = ( sumN )", "valueD = least pairD",
        "pairD = ( sumN , sumN )", "least = min", "least = max",
    };
    private static final Set<String> KEYWORDS = new TreeSet<>(Arrays.asList(("event teller tells at to before with doubt"
            + " believe when evening liars conflicts doubted claims window of contradict liar agreed not and or min max").split(" ")));
    private static final Map<String, List<String[]>> RULES = rules();

    static final class Token {
        String kind;
        String text;
        int place;
    }

    static final class Claim {
        int teller;
        int kind;
        int event;
        int first;
        int last;
    }

    static final class Order {
        boolean doubts;
        int teller;
        List<Token> test;
    }

    int errorAt = -1;
    List<String> events = new ArrayList<>();
    List<String> tellers = new ArrayList<>();
    List<Claim> claims = new ArrayList<>();
    List<Order> orders = new ArrayList<>();
    Set<Integer> doubted = new TreeSet<>();
    int evenings = 0;
    int carriedOut = 0;

    private static Map<String, List<String[]>> rules() {
        Map<String, List<String[]>> all = new HashMap<>();
        for (int depth = 0; depth <= 8; depth++) {
            for (String rule : GRAMMAR) {
                if (depth == 8 && rule.contains("N") || depth > 0 && !rule.contains("D")) {
                    continue;
                }
                String[] sides = rule.replace("D", "" + depth).replace("N", "" + (depth + 1)).split(" = ", 2);
                String[] right = sides[1].isEmpty() ? new String[0] : sides[1].split(" ");
                all.computeIfAbsent(sides[0], key -> new ArrayList<>()).add(right);
            }
        }
        return all;
    }

    /** The tokens, then the end or what cannot be read, of the kind "end" or "bad". */
    private static List<Token> tokens(String tape) {
        List<Token> all = new ArrayList<>();
        int at = 0;
        while (true) {
            while (at < tape.length() && " \n".indexOf(tape.charAt(at)) >= 0) {
                at++;
            }
            Token token = new Token();
            token.place = at;
            int end = at;
            if (at == tape.length()) {
                token.kind = "end";
            } else if (Character.toString(tape.charAt(at)).matches("[a-z]")) {
                while (end < tape.length() && Character.toString(tape.charAt(end)).matches("[a-z0-9]")) {
                    end++;
                }
                token.text = tape.substring(at, end);
                token.kind = end - at > 10 ? "bad" : KEYWORDS.contains(token.text) ? token.text : "name";
            } else if (Character.toString(tape.charAt(at)).matches("[0-9]")) {
                while (end < tape.length() && Character.toString(tape.charAt(end)).matches("[0-9]")) {
                    end++;
                }
                token.text = tape.substring(at, end);
                token.kind = end - at > 6 ? "bad" : "number";
            } else {
                end = tape.startsWith("<=", at) || tape.startsWith(">=", at) ? at + 2 : at + 1;
                token.text = tape.substring(at, end);
                token.kind = "()[];,+-*/<>=<=>=".contains(token.text) ? token.text : "bad";
            }
            if (all.size() == 400 && !token.kind.equals("end")) {
                token.kind = "bad";
            }
            all.add(token);
            if (token.kind.equals("end") || token.kind.equals("bad")) {
                return all;
            }
            at = end;
        }
    }

    /** Earley's recogniser: the first token with which the tokens so far begin no tapestry, or null. */
    private static Token senseless(List<Token> tokens) {
        List<Map<String, Set<List<Object>>>> waiting = new ArrayList<>();
        Set<List<Object>> now = new LinkedHashSet<>();
        now.add(item("start", new String[] {"tapestry"}, 0, 0));
        for (int at = 0; at < tokens.size(); at++) {
            Map<String, Set<List<Object>>> waits = new HashMap<>();
            waiting.add(waits);
            Set<List<Object>> next = new LinkedHashSet<>();
            Set<String> empties = new TreeSet<>();
            boolean whole = false;
            List<List<Object>> work = new ArrayList<>(now);
            for (int n = 0; n < work.size(); n++) {
                List<Object> item = work.get(n);
                String[] right = (String[]) item.get(1);
                int dot = (Integer) item.get(2);
                int origin = (Integer) item.get(3);
                List<List<Object>> more = new ArrayList<>();
                if (dot == right.length) {
                    whole |= item.get(0).equals("start");
                    if (origin == at) {
                        empties.add((String) item.get(0));
                    }
                    Set<List<Object>> known = waiting.get(origin).get(item.get(0));
                    if (known != null) {
                        for (List<Object> waiter : known) {
                            more.add(item((String) waiter.get(0), (String[]) waiter.get(1), (Integer) waiter.get(2) + 1, (Integer) waiter.get(3)));
                        }
                    }
                } else if (RULES.containsKey(right[dot])) {
                    waits.computeIfAbsent(right[dot], key -> new LinkedHashSet<>()).add(item);
                    for (String[] rule : RULES.get(right[dot])) {
                        more.add(item(right[dot], rule, 0, at));
                    }
                    if (empties.contains(right[dot])) {
                        more.add(item((String) item.get(0), right, dot + 1, origin));
                    }
                } else if (right[dot].equals(tokens.get(at).kind)) {
                    next.add(item((String) item.get(0), right, dot + 1, origin));
                }
                for (List<Object> another : more) {
                    if (now.add(another)) {
                        work.add(another);
                    }
                }
            }
            if (tokens.get(at).kind.equals("end")) {
                return whole ? null : tokens.get(at);
            }
            if (next.isEmpty()) {
                return tokens.get(at);
            }
            now = next;
        }
        throw new IllegalStateException("no end");
    }

    private static List<Object> item(String left, String[] right, int dot, int origin) {
        return Arrays.asList(left, right, dot, origin);
    }

    int teach(String tape) {
        List<Token> tokens = tokens(tape);
        Token wrong = senseless(tokens);
        if (wrong != null) {
            errorAt = wrong.place;
            return 1;
        }
        Oracle fresh = new Oracle();
        int error = fresh.take(tokens);
        errorAt = fresh.errorAt;
        if (error == 0) {
            events = fresh.events;
            tellers = fresh.tellers;
            claims = fresh.claims;
            orders = fresh.orders;
            doubted = fresh.doubted;
            evenings = 0;
            carriedOut = 0;
        }
        return error;
    }

    /** Looks at the tokens of a tapestry that makes sense, line by line. */
    private int take(List<Token> tokens) {
        int start = 0;
        for (int at = 0; at < tokens.size(); at++) {
            if (tokens.get(at).kind.equals(";")) {
                int error = takeLine(tokens.subList(start, at));
                if (error != 0) {
                    return error;
                }
                start = at + 1;
            }
        }
        return 0;
    }

    private int wrong(int error, Token token) {
        errorAt = token.place;
        return error;
    }

    private int takeLine(List<Token> line) {
        Token first = line.get(0);
        Token second = line.get(1);
        switch (first.kind) {
            case "event":
            case "teller":
                List<String> names = first.kind.equals("event") ? events : tellers;
                if (names.contains(second.text)) {
                    return wrong(2, second);
                }
                if (names.size() == (names == events ? 8 : 10)) {
                    return wrong(4, second);
                }
                names.add(second.text);
                return 0;
            case "tells":
                return takeClaim(line);
            default:
                return takeOrder(line);
        }
    }

    private int takeClaim(List<Token> line) {
        if (claims.size() == 40) {
            return wrong(4, line.get(0));
        }
        Claim claim = new Claim();
        claim.teller = tellers.indexOf(line.get(1).text);
        claim.event = events.indexOf(line.get(2).text);
        if (claim.teller < 0) {
            return wrong(3, line.get(1));
        }
        if (claim.event < 0) {
            return wrong(3, line.get(2));
        }
        if (line.get(3).kind.equals("at")) {
            claim.first = Integer.parseInt(line.get(4).text);
            if (claim.first > 99) {
                return wrong(5, line.get(4));
            }
            claim.last = claim.first;
            if (line.size() > 5) {
                claim.last = Integer.parseInt(line.get(6).text);
                if (claim.last > 99 || claim.last < claim.first) {
                    return wrong(5, line.get(6));
                }
            }
        } else {
            claim.kind = line.get(3).kind.equals("before") ? 1 : 2;
            claim.first = events.indexOf(line.get(4).text);
            if (claim.first < 0) {
                return wrong(3, line.get(4));
            }
            if (claim.first == claim.event) {
                return wrong(5, line.get(4));
            }
        }
        claims.add(claim);
        return 0;
    }

    private int takeOrder(List<Token> line) {
        if (orders.size() == 16) {
            return wrong(4, line.get(0));
        }
        for (int at = 1; at < line.size(); at++) {
            if (line.get(at).kind.equals("name")) {
                String before = line.get(at - 1).kind;
                boolean event = before.equals("agreed") || before.equals("of") && line.get(at - 2).kind.equals("window");
                if (!(event ? events : tellers).contains(line.get(at).text)) {
                    return wrong(3, line.get(at));
                }
            }
        }
        Order order = new Order();
        order.doubts = line.get(0).kind.equals("doubt");
        order.teller = tellers.indexOf(line.get(1).text);
        order.test = line.size() > 2 ? new ArrayList<>(line.subList(3, line.size())) : null;
        orders.add(order);
        return 0;
    }

    /** Where the last one of some signs stands outside of all brackets, -1 if none does. */
    private static int lastOf(List<Token> part, String signs) {
        int open = 0;
        for (int at = part.size() - 1; at >= 0; at--) {
            String kind = part.get(at).kind;
            open += ")]".contains(kind) ? 1 : "([".contains(kind) ? -1 : 0;
            if (open == 0 && Arrays.asList(signs.split(" ")).contains(kind) && !(kind.equals("-") && turns(part, at))) {
                return at;
            }
        }
        return -1;
    }

    /** Whether the - there stands in front of a value. */
    private static boolean turns(List<Token> part, int at) {
        return at == 0 || Arrays.asList("( , + - * / < > = <= >=".split(" ")).contains(part.get(at - 1).kind);
    }

    private boolean holds(List<Token> test) {
        int at = lastOf(test, "or");
        if (at >= 0) {
            return holds(test.subList(0, at)) | holds(test.subList(at + 1, test.size()));
        }
        at = lastOf(test, "and");
        if (at >= 0) {
            return holds(test.subList(0, at)) & holds(test.subList(at + 1, test.size()));
        }
        switch (test.get(0).kind) {
            case "not":
                return !holds(test.subList(1, test.size()));
            case "[":
                return holds(test.subList(1, test.size() - 1));
            case "contradict":
                return doContradict(tellers.indexOf(test.get(1).text), tellers.indexOf(test.get(2).text));
            case "liar":
                return liarSet().contains(tellers.indexOf(test.get(1).text));
            case "doubted":
                return doubted.contains(tellers.indexOf(test.get(1).text));
            case "agreed":
                return !window(events.indexOf(test.get(1).text)).isEmpty();
            default:
                return compares(test, lastOf(test, "< > = <= >="));
        }
    }

    private boolean compares(List<Token> test, int at) {
        int left = value(test.subList(0, at));
        int right = value(test.subList(at + 1, test.size()));
        String sign = test.get(at).kind;
        return left < right && sign.startsWith("<") || left > right && sign.startsWith(">") || left == right && sign.endsWith("=");
    }

    private int value(List<Token> sum) {
        int at = lastOf(sum, "+ -");
        if (at >= 0) {
            int left = value(sum.subList(0, at));
            int right = value(sum.subList(at + 1, sum.size()));
            return sum.get(at).kind.equals("+") ? left + right : left - right;
        }
        at = lastOf(sum, "* /");
        if (at >= 0) {
            int left = value(sum.subList(0, at));
            int right = value(sum.subList(at + 1, sum.size()));
            return sum.get(at).kind.equals("*") ? left * right : right == 0 ? 0 : (int) ((long) left / right);
        }
        Token first = sum.get(0);
        switch (first.kind) {
            case "number":
                return Integer.parseInt(first.text);
            case "evening":
                return evenings;
            case "liars":
                return liarSet().size();
            case "conflicts":
                return contradictions();
            case "claims":
                return claimsOf(tellers.indexOf(sum.get(2).text));
            case "window":
                return window(events.indexOf(sum.get(2).text)).size();
            case "-":
                return -value(sum.subList(1, sum.size()));
            case "(":
                return value(sum.subList(1, sum.size() - 1));
            default:
                List<Token> inside = sum.subList(2, sum.size() - 1);
                int comma = lastOf(inside, ",");
                int left = value(inside.subList(0, comma));
                int right = value(inside.subList(comma + 1, inside.size()));
                return first.kind.equals("min") == left < right ? left : right;
        }
    }

    boolean areContrary(Claim a, Claim b) {
        Set<Integer> both = new TreeSet<>(Arrays.asList(a.event, a.first));
        boolean sameTwo = both.equals(new TreeSet<>(Arrays.asList(b.event, b.first)));
        switch (a.kind * 3 + b.kind) {
            case 0:
                return a.event == b.event && Math.max(a.first, b.first) > Math.min(a.last, b.last);
            case 4:
                return sameTwo && a.event != b.event;
            case 5:
            case 7:
                return sameTwo;
            default:
                return false;
        }
    }

    int claimsOf(int teller) {
        return (int) claims.stream().filter(claim -> claim.teller == teller).count();
    }

    int contraryPairs(int teller, int other) {
        int pairs = 0;
        for (Claim a : claims) {
            for (Claim b : claims) {
                if (a.teller == teller && b.teller == other && areContrary(a, b)) {
                    pairs++;
                }
            }
        }
        return teller == other ? pairs / 2 : pairs;
    }

    boolean doContradict(int a, int b) {
        return !doubted.contains(a) && !doubted.contains(b) && contraryPairs(a, b) > 0;
    }

    int contradictions() {
        int pairs = 0;
        for (int a = 0; a < tellers.size(); a++) {
            for (int b = 0; b < a; b++) {
                pairs += doContradict(a, b) ? 1 : 0;
            }
        }
        return pairs;
    }

    private boolean isEnough(Set<Integer> set, boolean[][] against) {
        for (int a = 0; a < against.length; a++) {
            for (int b = a; b < against.length; b++) {
                if (against[a][b] && !set.contains(a) && !set.contains(b)) {
                    return false;
                }
            }
        }
        return true;
    }

    /** The smallest sets that are enough, the one of the liars first. */
    List<Set<Integer>> smallest() {
        int count = tellers.size();
        boolean[][] against = new boolean[count][count];
        for (int a = 0; a < count; a++) {
            for (int b = 0; b < count; b++) {
                against[a][b] = doContradict(a, b);
            }
        }
        for (int size = 0; size <= count; size++) {
            List<Set<Integer>> found = new ArrayList<>();
            gather(0, size, new TreeSet<>(), against, found);
            if (!found.isEmpty()) {
                return found;
            }
        }
        throw new IllegalStateException("no set");
    }

    /** Leaves a teller out before it takes this one, so that the sets come as they are preferred. */
    private void gather(int teller, int size, Set<Integer> set, boolean[][] against, List<Set<Integer>> found) {
        if (teller == against.length) {
            if (set.size() == size && doubted.stream().noneMatch(set::contains) && isEnough(set, against)) {
                found.add(new TreeSet<>(set));
            }
            return;
        }
        gather(teller + 1, size, set, against, found);
        if (set.size() < size) {
            set.add(teller);
            gather(teller + 1, size, set, against, found);
            set.remove(teller);
        }
    }

    Set<Integer> liarSet() {
        return smallest().get(0);
    }

    List<Integer> window(int event) {
        List<Integer> hours = new ArrayList<>();
        for (int hour = 0; hour <= 99; hour++) {
            int h = hour;
            if (claims.stream().allMatch(claim -> claim.kind != 0 || claim.event != event || doubted.contains(claim.teller)
                    || claim.first <= h && h <= claim.last)) {
                hours.add(hour);
            }
        }
        return hours;
    }

    /** The order of events, null if there is none. */
    List<Integer> order() {
        Set<Integer> liars = liarSet();
        List<Integer> standing = new ArrayList<>();
        while (standing.size() < events.size()) {
            int next = 0;
            while (next < events.size() && (standing.contains(next) || isHeld(next, standing, liars))) {
                next++;
            }
            if (next == events.size()) {
                return null;
            }
            standing.add(next);
        }
        return standing;
    }

    private boolean isHeld(int event, List<Integer> standing, Set<Integer> liars) {
        return claims.stream().anyMatch(claim -> claim.kind == 1 && claim.first == event && !standing.contains(claim.event)
                && !doubted.contains(claim.teller) && !liars.contains(claim.teller));
    }

    void passEvening() {
        for (Order order : orders) {
            if (order.test == null || holds(order.test)) {
                boolean changed = order.doubts ? doubted.add(order.teller) : doubted.remove(order.teller);
                carriedOut += changed ? 1 : 0;
            }
        }
        evenings++;
    }

    /** One that stands as this one does and goes its own way. */
    Oracle twin() {
        Oracle twin = new Oracle();
        twin.events = events;
        twin.tellers = tellers;
        twin.claims = claims;
        twin.orders = orders;
        twin.doubted = new TreeSet<>(doubted);
        twin.evenings = evenings;
        twin.carriedOut = carriedOut;
        return twin;
    }

    int bestToDoubt() {
        int best = -1;
        int fewest = contradictions();
        for (int teller = 0; teller < tellers.size(); teller++) {
            Oracle twin = twin();
            twin.doubted.add(teller);
            if (twin.contradictions() < fewest) {
                fewest = twin.contradictions();
                best = teller;
            }
        }
        return best;
    }
}
