/** A tapestry of overlapping stories: who claims what, who contradicts whom, and who has to be a liar. */
public final class StoryTapestry {
    private static final int MOST_BYTES = 2000;
    private static final int BYTES_FED = 20;
    private static final int MOST_TOKENS = 400;
    private static final int LONGEST_WORD = 10;
    private static final int LONGEST_NUMBER = 6;
    private static final int MOST_DEPTH = 8;
    private static final int MOST_EVENTS = 8;
    private static final int MOST_TELLERS = 10;
    private static final int MOST_CLAIMS = 40;
    private static final int MOST_ORDERS = 16;
    private static final int MOST_EVENINGS = 30;
    private static final int LAST_HOUR = 99;

    private static final int WITHIN_HOURS = 0;
    private static final int ONE_BEFORE = 1;
    private static final int TOGETHER = 2;

    private static final int NO_SENSE = 1;
    private static final int TOLD_TWICE = 2;
    private static final int NOT_TOLD = 3;
    private static final int TOO_MANY = 4;
    private static final int OUT_OF_RANGE = 5;

    // A token's kind: a symbol of one byte is its own kind, the keywords follow one another as in KEYWORDS.
    private static final String SYMBOLS = "()[];,+-*/<>=";
    private static final int AT_MOST = 128;
    private static final int AT_LEAST = 129;
    private static final int NAME = 130;
    private static final int NUMBER = 131;
    private static final int END = 132;
    private static final int BAD = 133;
    private static final int NEGATE = 134;

    private static final String KEYWORDS = "event teller tells at to before with doubt believe when evening liars conflicts doubted claims window of contradict liar agreed not and or min max ";
    private static final int KEYWORD_COUNT = 25;
    private static final int EVENT = 200;
    private static final int TELLER = 201;
    private static final int TELLS = 202;
    private static final int AT = 203;
    private static final int TO = 204;
    private static final int BEFORE = 205;
    private static final int WITH = 206;
    private static final int DOUBT = 207;
    private static final int BELIEVE = 208;
    private static final int WHEN = 209;
    private static final int EVENING = 210;
    private static final int LIARS = 211;
    private static final int CONFLICTS = 212;
    private static final int DOUBTED = 213;
    private static final int CLAIMS = 214;
    private static final int WINDOW = 215;
    private static final int OF = 216;
    private static final int CONTRADICT = 217;
    private static final int LIAR = 218;
    private static final int AGREED = 219;
    private static final int NOT = 220;
    private static final int AND = 221;
    private static final int OR = 222;
    private static final int MIN = 223;
    private static final int MAX = 224;

    private final Row tape;
    private final Reader reader;
    private final Tapestry told;
    private final Verdict verdict;
    private final Course course;
    private final Course trial;
    private int tapeSize;
    private int errorPlace;

    public StoryTapestry() {
        Row bytes = new Row(MOST_BYTES);
        Tapestry tapestry = new Tapestry();
        Verdict judge = new Verdict(tapestry);
        tape = bytes;
        reader = new Reader(bytes);
        told = tapestry;
        verdict = judge;
        course = new Course(tapestry, judge);
        trial = new Course(tapestry, judge);
        tapeSize = 0;
        errorPlace = -1;
    }

    // ---- the language

    public int feed(int a, int b, int c, int d, int e) throws IllegalStateException {
        if (tapeSize + BYTES_FED > MOST_BYTES) {
            throw new IllegalStateException("the tape is full");
        }
        appendBytes(a);
        appendBytes(b);
        appendBytes(c);
        appendBytes(d);
        appendBytes(e);
        return tapeSize;
    }

    private void appendBytes(int four) {
        for (int shift = 24; shift >= 0; shift -= 8) {
            tape.set(tapeSize, four >>> shift & 255);
            tapeSize++;
        }
    }

    public int trim(int n) throws IllegalArgumentException {
        if (n < 0 || n > tapeSize) {
            throw new IllegalArgumentException("not 0 to the bytes of the tape");
        }
        tapeSize = n;
        return n;
    }

    public int teach() {
        int error = reader.read(tapeSize);
        errorPlace = reader.errorPlace;
        tapeSize = 0;
        if (error == 0) {
            told.copyFrom(reader.draft);
            verdict.hearClaims();
            course.restart();
        }
        return error;
    }

    public int errorAt() {
        return errorPlace;
    }

    // ---- the tapestry

    public int events() {
        return told.eventCount;
    }

    public int tellers() {
        return told.tellerCount;
    }

    public int claims() {
        return told.claims.count;
    }

    public int evenings() {
        return course.evening;
    }

    public int ordersCarriedOut() {
        return course.carriedOut;
    }

    // ---- claims

    public int tellerOf(int claim) throws IndexOutOfBoundsException {
        needClaim(claim);
        return told.claims.tellers.get(claim);
    }

    public int kindOf(int claim) throws IndexOutOfBoundsException {
        needClaim(claim);
        return told.claims.kinds.get(claim);
    }

    public int eventOf(int claim) throws IndexOutOfBoundsException {
        needClaim(claim);
        return told.claims.events.get(claim);
    }

    public int secondEventOf(int claim) throws IndexOutOfBoundsException, IllegalStateException {
        needClaim(claim);
        if (told.claims.kinds.get(claim) == WITHIN_HOURS) {
            throw new IllegalStateException("a claim of hours has one event");
        }
        return told.claims.firsts.get(claim);
    }

    public int firstHourOf(int claim) throws IndexOutOfBoundsException, IllegalStateException {
        needClaim(claim);
        needHours(claim);
        return told.claims.firsts.get(claim);
    }

    public int lastHourOf(int claim) throws IndexOutOfBoundsException, IllegalStateException {
        needClaim(claim);
        needHours(claim);
        return told.claims.lasts.get(claim);
    }

    public boolean areContrary(int a, int b) throws IndexOutOfBoundsException {
        needClaim(a);
        needClaim(b);
        return told.claims.contradict(a, b);
    }

    private void needClaim(int claim) {
        if (claim < 0 || claim >= told.claims.count) {
            throw new IndexOutOfBoundsException("no such claim");
        }
    }

    private void needHours(int claim) {
        if (told.claims.kinds.get(claim) != WITHIN_HOURS) {
            throw new IllegalStateException("a claim of two events has no hours");
        }
    }

    // ---- tellers

    public int claimsOf(int teller) throws IndexOutOfBoundsException {
        needTeller(teller);
        return told.claims.countOf(teller);
    }

    public boolean isDoubted(int teller) throws IndexOutOfBoundsException {
        needTeller(teller);
        return has(course.doubted, teller);
    }

    public boolean doContradict(int a, int b) throws IndexOutOfBoundsException {
        needTeller(a);
        needTeller(b);
        return verdict.tellersContradict(a, b, course.doubted);
    }

    public int contraryPairs(int a, int b) throws IndexOutOfBoundsException {
        needTeller(a);
        needTeller(b);
        return told.claims.pairsOf(a, b);
    }

    public int contradictions() {
        return verdict.pairCount(course.doubted);
    }

    public int liars() {
        return Integer.bitCount(verdict.liarSet(course.doubted));
    }

    public int smallestSets() {
        return verdict.setCount(course.doubted);
    }

    public boolean isLiar(int teller) throws IndexOutOfBoundsException {
        needTeller(teller);
        return has(verdict.liarSet(course.doubted), teller);
    }

    private void needTeller(int teller) {
        if (teller < 0 || teller >= told.tellerCount) {
            throw new IndexOutOfBoundsException("no such teller");
        }
    }

    // ---- events

    public boolean isAgreed(int event) throws IndexOutOfBoundsException {
        needEvent(event);
        return verdict.windowHours(event, course.doubted) > 0;
    }

    public int windowFrom(int event) throws IndexOutOfBoundsException, IllegalStateException {
        needEvent(event);
        needWindow(event);
        return verdict.firstHour(event, course.doubted);
    }

    public int windowTo(int event) throws IndexOutOfBoundsException, IllegalStateException {
        needEvent(event);
        needWindow(event);
        return verdict.lastHour(event, course.doubted);
    }

    public boolean hasOrder() {
        return verdict.arrange(course.doubted);
    }

    public int eventAt(int place) throws IndexOutOfBoundsException, IllegalStateException {
        if (place < 0 || place >= told.eventCount) {
            throw new IndexOutOfBoundsException("no such place");
        }
        if (!verdict.arrange(course.doubted)) {
            throw new IllegalStateException("there is no order");
        }
        return verdict.order.get(place);
    }

    private void needEvent(int event) {
        if (event < 0 || event >= told.eventCount) {
            throw new IndexOutOfBoundsException("no such event");
        }
    }

    private void needWindow(int event) {
        if (verdict.windowHours(event, course.doubted) == 0) {
            throw new IllegalStateException("the event is not agreed on");
        }
    }

    // ---- by hand

    public int claimHours(int teller, int event, int from, int to)
            throws IndexOutOfBoundsException, IllegalArgumentException, IllegalStateException {
        needTeller(teller);
        needEvent(event);
        if (from < 0 || to > LAST_HOUR || to < from) {
            throw new IllegalArgumentException("not hours from 0 to 99");
        }
        return claimByHand(teller, WITHIN_HOURS, event, from, to);
    }

    public int claimBefore(int teller, int event, int other)
            throws IndexOutOfBoundsException, IllegalArgumentException, IllegalStateException {
        needTeller(teller);
        needTwoEvents(event, other);
        return claimByHand(teller, ONE_BEFORE, event, other, 0);
    }

    public int claimTogether(int teller, int event, int other)
            throws IndexOutOfBoundsException, IllegalArgumentException, IllegalStateException {
        needTeller(teller);
        needTwoEvents(event, other);
        return claimByHand(teller, TOGETHER, event, other, 0);
    }

    public int takeBack(int claim) throws IndexOutOfBoundsException {
        needClaim(claim);
        int teller = told.claims.tellers.get(claim);
        told.claims.remove(claim);
        verdict.hearClaims();
        return teller;
    }

    public boolean turnDoubt(int teller) throws IndexOutOfBoundsException {
        needTeller(teller);
        course.doubted = course.doubted ^ 1 << teller;
        return has(course.doubted, teller);
    }

    private void needTwoEvents(int event, int other) {
        needEvent(event);
        needEvent(other);
        if (event == other) {
            throw new IllegalArgumentException("both events are the same");
        }
    }

    private int claimByHand(int teller, int kind, int event, int first, int last) {
        if (told.claims.isFull()) {
            throw new IllegalStateException("there are 40 claims");
        }
        told.claims.add(teller, kind, event, first, last);
        verdict.hearClaims();
        return told.claims.count - 1;
    }

    // ---- evenings and what would be

    public int passEvenings(int evenings) throws IllegalArgumentException {
        needEvenings(evenings);
        int before = course.carriedOut;
        for (int n = 0; n < evenings; n++) {
            course.passOne();
        }
        return course.carriedOut - before;
    }

    public int liarsAfter(int evenings) throws IllegalArgumentException {
        needEvenings(evenings);
        trial.copyFrom(course);
        for (int n = 0; n < evenings; n++) {
            trial.passOne();
        }
        return Integer.bitCount(verdict.liarSet(trial.doubted));
    }

    public int eveningsUntilOneStory() {
        trial.copyFrom(course);
        for (int n = 0; n < MOST_EVENINGS; n++) {
            if (verdict.liarSet(trial.doubted) == 0) {
                return n;
            }
            trial.passOne();
        }
        return verdict.liarSet(trial.doubted) == 0 ? MOST_EVENINGS : -1;
    }

    public int bestToDoubt() {
        int best = -1;
        int fewest = verdict.pairCount(course.doubted);
        for (int teller = 0; teller < told.tellerCount; teller++) {
            int pairs = verdict.pairCount(course.doubted | 1 << teller);
            if (pairs < fewest) {
                fewest = pairs;
                best = teller;
            }
        }
        return best;
    }

    public double meanClaims() {
        if (told.tellerCount <= 0) {
            return 0.0;
        }
        return (double) told.claims.count / (double) told.tellerCount;
    }

    public long digest() {
        long d = 991;
        d = d * 31 + events();
        d = d * 31 + tellers();
        d = d * 31 + claims();
        d = d * 31 + evenings();
        d = d * 31 + ordersCarriedOut();
        d = d * 31 + contradictions();
        d = d * 31 + liars();
        d = d * 31 + smallestSets();
        d = d * 31 + one(hasOrder());
        return digestEvents(digestTellers(digestClaims(d)));
    }

    private long digestClaims(long start) {
        long d = start;
        for (int claim = 0; claim < told.claims.count; claim++) {
            d = d * 31 + told.claims.tellers.get(claim);
            d = d * 31 + told.claims.kinds.get(claim);
            d = d * 31 + told.claims.events.get(claim);
        }
        return d;
    }

    private long digestTellers(long start) {
        long d = start;
        int doubted = course.doubted;
        for (int teller = 0; teller < told.tellerCount; teller++) {
            d = d * 31 + told.claims.countOf(teller);
            d = d * 31 + one(has(doubted, teller));
            d = d * 31 + one(has(verdict.liarSet(doubted), teller));
            for (int other = 0; other < told.tellerCount; other++) {
                d = d * 31 + one(verdict.tellersContradict(teller, other, doubted));
            }
        }
        return d;
    }

    private long digestEvents(long start) {
        long d = start;
        boolean ordered = verdict.arrange(course.doubted);
        for (int event = 0; event < told.eventCount; event++) {
            boolean agreed = verdict.windowHours(event, course.doubted) > 0;
            d = d * 31 + one(agreed);
            d = d * 31 + (agreed ? verdict.firstHour(event, course.doubted) : -1);
            d = d * 31 + (agreed ? verdict.lastHour(event, course.doubted) : -1);
            d = d * 31 + (ordered ? verdict.order.get(event) : -1);
        }
        return d;
    }

    private void needEvenings(int evenings) {
        if (evenings < 1 || evenings > MOST_EVENINGS) {
            throw new IllegalArgumentException("not 1 to 30 evenings");
        }
    }

    private static boolean has(int set, int member) {
        return (set >> member & 1) != 0;
    }

    private static int one(boolean so) {
        return so ? 1 : 0;
    }

    /** Numbers at places. A place outside holds 0 and takes nothing, so that no place can ever fail. */
    private static final class Row {
        private final int[] cells;

        Row(int length) {
            cells = new int[length > 0 ? length : 0];
        }

        int get(int place) {
            return place >= 0 && place < cells.length ? cells[place] : 0;
        }

        void set(int place, int number) {
            if (place >= 0 && place < cells.length) {
                cells[place] = number;
            }
        }

        void copyFrom(Row other) {
            for (int place = 0; place < cells.length; place++) {
                cells[place] = other.get(place);
            }
        }
    }

    /** Words in the order in which they are told, each packed into one number. */
    private static final class Names {
        private final long[] words;
        private int count;

        Names(int most) {
            words = new long[most > 0 ? most : 0];
            count = 0;
        }

        boolean isFull() {
            return count >= words.length;
        }

        void add(long word) {
            if (count >= 0 && count < words.length) {
                words[count] = word;
                count++;
            }
        }

        int find(long word) {
            for (int place = 0; place < count && place < words.length; place++) {
                if (words[place] == word) {
                    return place;
                }
            }
            return -1;
        }
    }

    /** The tape cut into tokens; the last one is END, or BAD where no token could be read. */
    private static final class Tokens {
        private final Row tape;
        private final Row kinds;
        private final Row starts;
        private final Row numbers;
        private final long[] words;
        private final Names keywords;
        private int size;
        private int place;
        private int number;
        private long word;

        Tokens(Row bytes) {
            tape = bytes;
            kinds = new Row(MOST_TOKENS + 1);
            starts = new Row(MOST_TOKENS + 1);
            numbers = new Row(MOST_TOKENS + 1);
            words = new long[MOST_TOKENS + 1];
            keywords = new Names(KEYWORD_COUNT);
            fillKeywords();
        }

        private void fillKeywords() {
            long packed = 0;
            for (int i = 0; i < KEYWORDS.length(); i++) {
                int letter = KEYWORDS.charAt(i);
                if (letter == ' ') {
                    keywords.add(packed);
                    packed = 0;
                } else {
                    packed = pack(packed, letter);
                }
            }
        }

        void split(int bytes) {
            size = bytes;
            place = 0;
            int kind = NAME;
            for (int token = 0; token <= MOST_TOKENS && kind != END && kind != BAD; token++) {
                skipBlanks();
                starts.set(token, place);
                kind = nextKind();
                if (token == MOST_TOKENS && kind != END) {
                    kind = BAD;
                }
                kinds.set(token, kind);
                numbers.set(token, number);
                if (token < words.length) {
                    words[token] = word;
                }
            }
        }

        long wordAt(int token) {
            return token >= 0 && token < words.length ? words[token] : 0;
        }

        private void skipBlanks() {
            while (place < size && (tape.get(place) == ' ' || tape.get(place) == '\n')) {
                place++;
            }
        }

        private int nextKind() {
            if (place >= size) {
                return END;
            }
            int first = tape.get(place);
            if (isLetter(first)) {
                return wordKind();
            }
            if (isDigit(first)) {
                return numberKind();
            }
            place++;
            if ((first == '<' || first == '>') && place < size && tape.get(place) == '=') {
                place++;
                return first == '<' ? AT_MOST : AT_LEAST;
            }
            return SYMBOLS.indexOf((char) first) >= 0 ? first : BAD;
        }

        private int wordKind() {
            int start = place;
            word = 0;
            while (place < size && (isLetter(tape.get(place)) || isDigit(tape.get(place)))) {
                word = pack(word, tape.get(place));
                place++;
            }
            if (place - start > LONGEST_WORD) {
                return BAD;
            }
            int keyword = keywords.find(word);
            return keyword >= 0 ? EVENT + keyword : NAME;
        }

        private int numberKind() {
            int start = place;
            number = 0;
            while (place < size && isDigit(tape.get(place))) {
                number = number * 10 + (tape.get(place) - '0');
                place++;
            }
            return place - start > LONGEST_NUMBER ? BAD : NUMBER;
        }

        private static boolean isLetter(int sign) {
            return sign >= 'a' && sign <= 'z';
        }

        private static boolean isDigit(int sign) {
            return sign >= '0' && sign <= '9';
        }

        // No sign packs to 0, so words of up to ten signs of 36 are never the same number.
        private static long pack(long packed, int sign) {
            return packed * 37 + (isDigit(sign) ? sign - '0' + 27 : sign - 'a' + 1);
        }
    }

    /** Reads the tokens as a tapestry, from left to right, into a draft that counts only without an error. */
    private static final class Reader {
        private final Tokens tokens;
        private final Tapestry draft;
        private final Names eventNames;
        private final Names tellerNames;
        private int at;
        private int kind;
        private int depth;
        private int error;
        private int errorPlace;

        Reader(Row tape) {
            tokens = new Tokens(tape);
            draft = new Tapestry();
            eventNames = new Names(MOST_EVENTS);
            tellerNames = new Names(MOST_TELLERS);
        }

        int read(int size) {
            restart(size);
            for (int line = 0; line < MOST_TOKENS && kind != END && error != NO_SENSE; line++) {
                if (kind == EVENT) {
                    readNew(eventNames);
                } else if (kind == TELLER) {
                    readNew(tellerNames);
                } else if (kind == TELLS) {
                    readClaim();
                } else if (kind == DOUBT || kind == BELIEVE) {
                    readOrder();
                } else {
                    fail();
                }
                expect(';');
            }
            draft.eventCount = eventNames.count;
            draft.tellerCount = tellerNames.count;
            return error;
        }

        private void restart(int size) {
            tokens.split(size);
            draft.clear();
            eventNames.count = 0;
            tellerNames.count = 0;
            at = 0;
            kind = tokens.kinds.get(0);
            depth = 0;
            error = 0;
            errorPlace = -1;
        }

        private void advance() {
            at++;
            kind = tokens.kinds.get(at);
        }

        /** Only the first one counts, but for one of sense, which counts ahead of all others. */
        private void note(int fault) {
            if (error == 0 || fault == NO_SENSE && error != NO_SENSE) {
                error = fault;
                errorPlace = tokens.starts.get(at);
            }
        }

        /** Leaves no token that could still be read, so that all who read come to their end. */
        private void fail() {
            note(NO_SENSE);
            kind = BAD;
        }

        private void expect(int wanted) {
            if (kind == wanted) {
                advance();
            } else {
                fail();
            }
        }

        /** Goes one deeper behind the current token, unless that is too deep. */
        private boolean deepen() {
            if (depth >= MOST_DEPTH) {
                fail();
                return false;
            }
            depth++;
            advance();
            return true;
        }

        private void readNew(Names names) {
            advance();
            if (kind != NAME) {
                fail();
                return;
            }
            if (names.find(tokens.wordAt(at)) >= 0) {
                note(TOLD_TWICE);
            } else if (names.isFull()) {
                note(TOO_MANY);
            } else {
                names.add(tokens.wordAt(at));
            }
            advance();
        }

        private int readKnown(Names names) {
            if (kind != NAME) {
                fail();
                return -1;
            }
            int number = names.find(tokens.wordAt(at));
            if (number < 0) {
                note(NOT_TOLD);
            }
            advance();
            return number;
        }

        private void readClaim() {
            if (draft.claims.isFull()) {
                note(TOO_MANY);
            }
            advance();
            int teller = readKnown(tellerNames);
            int event = readKnown(eventNames);
            if (kind == AT) {
                readHours(teller, event);
            } else if (kind == BEFORE || kind == WITH) {
                readOther(teller, event);
            } else {
                fail();
            }
        }

        private void readHours(int teller, int event) {
            advance();
            int from = readHour(0);
            int to = from;
            if (kind == TO) {
                advance();
                to = readHour(from);
            }
            if (error == 0) {
                draft.claims.add(teller, WITHIN_HOURS, event, from, to);
            }
        }

        private int readHour(int least) {
            int hour = tokens.numbers.get(at);
            if (kind == NUMBER && (hour > LAST_HOUR || hour < least)) {
                note(OUT_OF_RANGE);
            }
            expect(NUMBER);
            return hour;
        }

        private void readOther(int teller, int event) {
            int claimed = kind == BEFORE ? ONE_BEFORE : TOGETHER;
            advance();
            if (kind == NAME && event >= 0 && eventNames.find(tokens.wordAt(at)) == event) {
                note(OUT_OF_RANGE);
            }
            int other = readKnown(eventNames);
            if (error == 0) {
                draft.claims.add(teller, claimed, event, other, 0);
            }
        }

        private void readOrder() {
            boolean doubts = kind == DOUBT;
            if (draft.orders.isFull()) {
                note(TOO_MANY);
            }
            advance();
            int teller = readKnown(tellerNames);
            if (kind == WHEN) {
                advance();
                readTest();
            }
            if (error == 0) {
                draft.orders.add(doubts, teller);
            }
        }

        private void readTest() {
            readBoth();
            for (int n = 0; n < MOST_TOKENS && kind == OR; n++) {
                advance();
                readBoth();
                draft.orders.addStep(OR, 0);
            }
        }

        private void readBoth() {
            readSingle();
            for (int n = 0; n < MOST_TOKENS && kind == AND; n++) {
                advance();
                readSingle();
                draft.orders.addStep(AND, 0);
            }
        }

        private void readSingle() {
            int asked = kind;
            switch (asked) {
                case NOT:
                    if (deepen()) {
                        readSingle();
                        depth--;
                        draft.orders.addStep(NOT, 0);
                    }
                    break;
                case '[':
                    if (deepen()) {
                        readTest();
                        depth--;
                        expect(']');
                    }
                    break;
                case CONTRADICT:
                    readTwoTellers();
                    break;
                case LIAR:
                case DOUBTED:
                    advance();
                    draft.orders.addStep(asked, readKnown(tellerNames));
                    break;
                case AGREED:
                    advance();
                    draft.orders.addStep(AGREED, readKnown(eventNames));
                    break;
                default:
                    readSum();
                    readCompared();
                    break;
            }
        }

        private void readTwoTellers() {
            advance();
            int first = readKnown(tellerNames);
            int second = readKnown(tellerNames);
            draft.orders.addStep(CONTRADICT, first << 4 | second);
        }

        private void readCompared() {
            int sign = kind;
            if (sign != '<' && sign != '>' && sign != '=' && sign != AT_MOST && sign != AT_LEAST) {
                fail();
                return;
            }
            advance();
            readSum();
            draft.orders.addStep(sign, 0);
        }

        private void readSum() {
            readProduct();
            for (int n = 0; n < MOST_TOKENS && (kind == '+' || kind == '-'); n++) {
                int sign = kind;
                advance();
                readProduct();
                draft.orders.addStep(sign, 0);
            }
        }

        private void readProduct() {
            readValue();
            for (int n = 0; n < MOST_TOKENS && (kind == '*' || kind == '/'); n++) {
                int sign = kind;
                advance();
                readValue();
                draft.orders.addStep(sign, 0);
            }
        }

        private void readValue() {
            int asked = kind;
            switch (asked) {
                case NUMBER:
                    draft.orders.addStep(NUMBER, tokens.numbers.get(at));
                    advance();
                    break;
                case EVENING:
                case LIARS:
                case CONFLICTS:
                    draft.orders.addStep(asked, 0);
                    advance();
                    break;
                case CLAIMS:
                case WINDOW:
                    advance();
                    expect(OF);
                    draft.orders.addStep(asked, readKnown(asked == CLAIMS ? tellerNames : eventNames));
                    break;
                case '-':
                    if (deepen()) {
                        readValue();
                        depth--;
                        draft.orders.addStep(NEGATE, 0);
                    }
                    break;
                case '(':
                    if (deepen()) {
                        readSum();
                        depth--;
                        expect(')');
                    }
                    break;
                case MIN:
                case MAX:
                    advance();
                    readTwoSums();
                    draft.orders.addStep(asked, 0);
                    break;
                default:
                    fail();
                    break;
            }
        }

        private void readTwoSums() {
            if (kind != '(') {
                fail();
                return;
            }
            if (deepen()) {
                readSum();
                expect(',');
                readSum();
                depth--;
                expect(')');
            }
        }
    }

    /** What is told: events, tellers, claims and orders. */
    private static final class Tapestry {
        private final Claims claims;
        private final Orders orders;
        private int eventCount;
        private int tellerCount;

        Tapestry() {
            claims = new Claims();
            orders = new Orders();
        }

        void clear() {
            claims.count = 0;
            orders.count = 0;
            orders.stepCount = 0;
            eventCount = 0;
            tellerCount = 0;
        }

        void copyFrom(Tapestry other) {
            claims.copyFrom(other.claims);
            orders.copyFrom(other.orders);
            eventCount = other.eventCount;
            tellerCount = other.tellerCount;
        }
    }

    /** The claims; firsts holds the first hour of a claim of hours, the second event of the others. */
    private static final class Claims {
        private final Row tellers;
        private final Row kinds;
        private final Row events;
        private final Row firsts;
        private final Row lasts;
        private int count;

        Claims() {
            tellers = new Row(MOST_CLAIMS);
            kinds = new Row(MOST_CLAIMS);
            events = new Row(MOST_CLAIMS);
            firsts = new Row(MOST_CLAIMS);
            lasts = new Row(MOST_CLAIMS);
            count = 0;
        }

        void copyFrom(Claims other) {
            tellers.copyFrom(other.tellers);
            kinds.copyFrom(other.kinds);
            events.copyFrom(other.events);
            firsts.copyFrom(other.firsts);
            lasts.copyFrom(other.lasts);
            count = other.count;
        }

        boolean isFull() {
            return count >= MOST_CLAIMS;
        }

        void add(int teller, int kind, int event, int first, int last) {
            if (isFull()) {
                return;
            }
            tellers.set(count, teller);
            kinds.set(count, kind);
            events.set(count, event);
            firsts.set(count, first);
            lasts.set(count, last);
            count++;
        }

        void remove(int claim) {
            for (int later = claim + 1; later < count; later++) {
                tellers.set(later - 1, tellers.get(later));
                kinds.set(later - 1, kinds.get(later));
                events.set(later - 1, events.get(later));
                firsts.set(later - 1, firsts.get(later));
                lasts.set(later - 1, lasts.get(later));
            }
            count--;
        }

        int countOf(int teller) {
            int own = 0;
            for (int claim = 0; claim < count; claim++) {
                if (tellers.get(claim) == teller) {
                    own++;
                }
            }
            return own;
        }

        int pairsOf(int teller, int other) {
            int pairs = 0;
            for (int a = 0; a < count; a++) {
                for (int b = a + 1; b < count; b++) {
                    if (isPairOf(tellers.get(a), tellers.get(b), teller, other) && contradict(a, b)) {
                        pairs++;
                    }
                }
            }
            return pairs;
        }

        private static boolean isPairOf(int a, int b, int teller, int other) {
            return a == teller && b == other || a == other && b == teller;
        }

        boolean contradict(int a, int b) {
            int kind = kinds.get(a);
            int otherKind = kinds.get(b);
            if (kind == WITHIN_HOURS && otherKind == WITHIN_HOURS) {
                return events.get(a) == events.get(b)
                        && (lasts.get(a) < firsts.get(b) || lasts.get(b) < firsts.get(a));
            }
            if (kind == WITHIN_HOURS || otherKind == WITHIN_HOURS) {
                return false;
            }
            boolean turned = events.get(a) == firsts.get(b) && firsts.get(a) == events.get(b);
            boolean alike = events.get(a) == events.get(b) && firsts.get(a) == firsts.get(b);
            if (kind == ONE_BEFORE && otherKind == ONE_BEFORE) {
                return turned;
            }
            return kind != otherKind && (turned || alike);
        }
    }

    /** The orders; their tests stand one behind the other as steps, each of which follows what it works on. */
    private static final class Orders {
        private final Row doubts;
        private final Row tellers;
        private final Row ends;
        private final Row stepKinds;
        private final Row stepParts;
        private int count;
        private int stepCount;

        Orders() {
            doubts = new Row(MOST_ORDERS);
            tellers = new Row(MOST_ORDERS);
            ends = new Row(MOST_ORDERS);
            stepKinds = new Row(MOST_TOKENS);
            stepParts = new Row(MOST_TOKENS);
            count = 0;
            stepCount = 0;
        }

        void copyFrom(Orders other) {
            doubts.copyFrom(other.doubts);
            tellers.copyFrom(other.tellers);
            ends.copyFrom(other.ends);
            stepKinds.copyFrom(other.stepKinds);
            stepParts.copyFrom(other.stepParts);
            count = other.count;
            stepCount = other.stepCount;
        }

        boolean isFull() {
            return count >= MOST_ORDERS;
        }

        /** A step comes from a token of its own, so that there is room for all. */
        void addStep(int kind, int part) {
            if (stepCount < MOST_TOKENS) {
                stepKinds.set(stepCount, kind);
                stepParts.set(stepCount, part);
                stepCount++;
            }
        }

        /** Adds an order, whose test is made of the steps that no order has yet. */
        void add(boolean doubting, int teller) {
            if (isFull()) {
                return;
            }
            doubts.set(count, one(doubting));
            tellers.set(count, teller);
            ends.set(count, stepCount);
            count++;
        }

        int startOf(int order) {
            return order > 0 ? ends.get(order - 1) : 0;
        }
    }

    /** What follows from the claims, for any set of doubted tellers. A set of tellers has the bit t for the teller t. */
    private static final class Verdict {
        private static final int NOTHING_JUDGED = -1;

        private final Tapestry told;
        private final Row against;
        private final Row ahead;
        private final Row order;
        private int judged;
        private int liarSet;
        private int setCount;

        Verdict(Tapestry tapestry) {
            told = tapestry;
            against = new Row(MOST_TELLERS);
            ahead = new Row(MOST_EVENTS);
            order = new Row(MOST_EVENTS);
            judged = NOTHING_JUDGED;
        }

        /** Has to be called behind every change of the claims. */
        void hearClaims() {
            judged = NOTHING_JUDGED;
            for (int teller = 0; teller < MOST_TELLERS; teller++) {
                against.set(teller, 0);
            }
            for (int a = 0; a < told.claims.count; a++) {
                for (int b = a + 1; b < told.claims.count; b++) {
                    if (told.claims.contradict(a, b)) {
                        setAgainst(told.claims.tellers.get(a), told.claims.tellers.get(b));
                    }
                }
            }
        }

        private void setAgainst(int teller, int other) {
            against.set(teller, against.get(teller) | 1 << other);
            against.set(other, against.get(other) | 1 << teller);
        }

        private int believedSet(int doubted) {
            return (1 << told.tellerCount) - 1 & ~doubted;
        }

        boolean tellersContradict(int teller, int other, int doubted) {
            return !has(doubted, teller) && !has(doubted, other) && has(against.get(teller), other);
        }

        int pairCount(int doubted) {
            int pairs = 0;
            int later = believedSet(doubted);
            for (int teller = 0; teller < told.tellerCount; teller++) {
                if (has(later, teller)) {
                    later &= ~(1 << teller);
                    pairs += Integer.bitCount(against.get(teller) & later);
                }
            }
            return pairs;
        }

        int liarSet(int doubted) {
            judge(doubted);
            return liarSet;
        }

        int setCount(int doubted) {
            judge(doubted);
            return setCount;
        }

        private void judge(int doubted) {
            if (doubted == judged) {
                return;
            }
            int believed = believedSet(doubted);
            int involved = involvedIn(believed);
            int fewest = MOST_TELLERS + 1;
            int sets = 1 << Integer.bitCount(involved);
            int set = 0;
            for (int n = 0; n < sets; n++) {
                int size = Integer.bitCount(set);
                if (size <= fewest && isEnough(set, believed)) {
                    setCount = size < fewest ? 1 : setCount + 1;
                    liarSet = size < fewest || isPreferred(set, liarSet) ? set : liarSet;
                    fewest = size;
                }
                set = set - involved & involved;
            }
            judged = doubted;
        }

        /** Nobody else is in a smallest set. */
        private int involvedIn(int believed) {
            int involved = 0;
            for (int teller = 0; teller < told.tellerCount; teller++) {
                if (has(believed, teller)) {
                    involved |= against.get(teller) & believed;
                }
            }
            return involved;
        }

        private boolean isEnough(int set, int believed) {
            int rest = believed & ~set;
            for (int teller = 0; teller < told.tellerCount; teller++) {
                if (has(rest, teller) && (against.get(teller) & rest) != 0) {
                    return false;
                }
            }
            return true;
        }

        private static boolean isPreferred(int set, int other) {
            int apart = set ^ other;
            return (set & apart & -apart) == 0;
        }

        int firstHour(int event, int doubted) {
            int first = 0;
            for (int claim = 0; claim < told.claims.count; claim++) {
                if (isHeard(claim, event, doubted)) {
                    first = Math.max(first, told.claims.firsts.get(claim));
                }
            }
            return first;
        }

        int lastHour(int event, int doubted) {
            int last = LAST_HOUR;
            for (int claim = 0; claim < told.claims.count; claim++) {
                if (isHeard(claim, event, doubted)) {
                    last = Math.min(last, told.claims.lasts.get(claim));
                }
            }
            return last;
        }

        int windowHours(int event, int doubted) {
            return Math.max(0, lastHour(event, doubted) - firstHour(event, doubted) + 1);
        }

        private boolean isHeard(int claim, int event, int doubted) {
            return told.claims.kinds.get(claim) == WITHIN_HOURS && told.claims.events.get(claim) == event
                    && !has(doubted, told.claims.tellers.get(claim));
        }

        /** Puts the events into their order, as far as there is one, and tells whether there is. */
        boolean arrange(int doubted) {
            gatherAhead(believedSet(doubted) & ~liarSet(doubted));
            int standing = 0;
            for (int place = 0; place < told.eventCount; place++) {
                int next = nextEvent(standing);
                if (next < 0) {
                    return false;
                }
                order.set(place, next);
                standing |= 1 << next;
            }
            return true;
        }

        private void gatherAhead(int truthful) {
            for (int event = 0; event < MOST_EVENTS; event++) {
                ahead.set(event, 0);
            }
            for (int claim = 0; claim < told.claims.count; claim++) {
                if (told.claims.kinds.get(claim) == ONE_BEFORE && has(truthful, told.claims.tellers.get(claim))) {
                    int later = told.claims.firsts.get(claim);
                    ahead.set(later, ahead.get(later) | 1 << told.claims.events.get(claim));
                }
            }
        }

        private int nextEvent(int standing) {
            for (int event = 0; event < told.eventCount; event++) {
                if (!has(standing, event) && (ahead.get(event) & ~standing) == 0) {
                    return event;
                }
            }
            return -1;
        }
    }

    /** A course of evenings: the true one, or one that is only tried. */
    private static final class Course {
        private final Tapestry told;
        private final Verdict verdict;
        private final Row stack;
        private int top;
        private int doubted;
        private int evening;
        private int carriedOut;

        Course(Tapestry tapestry, Verdict judge) {
            told = tapestry;
            verdict = judge;
            stack = new Row(MOST_TOKENS);
        }

        void restart() {
            doubted = 0;
            evening = 0;
            carriedOut = 0;
        }

        void copyFrom(Course other) {
            doubted = other.doubted;
            evening = other.evening;
            carriedOut = other.carriedOut;
        }

        void passOne() {
            for (int order = 0; order < told.orders.count; order++) {
                if (holds(order)) {
                    carryOut(order);
                }
            }
            evening++;
        }

        private void carryOut(int order) {
            int teller = 1 << told.orders.tellers.get(order);
            int changed = told.orders.doubts.get(order) != 0 ? doubted | teller : doubted & ~teller;
            if (changed != doubted) {
                doubted = changed;
                carriedOut++;
            }
        }

        private boolean holds(int order) {
            int start = told.orders.startOf(order);
            int end = told.orders.ends.get(order);
            if (start >= end) {
                return true;
            }
            top = 0;
            for (int step = start; step < end; step++) {
                int kind = told.orders.stepKinds.get(step);
                if (kind == NUMBER || kind >= EVENING && kind <= AGREED) {
                    push(fact(kind, told.orders.stepParts.get(step)));
                } else {
                    reckon(kind);
                }
            }
            return pop() != 0;
        }

        private void push(int number) {
            stack.set(top, number);
            top++;
        }

        private int pop() {
            top--;
            return stack.get(top);
        }

        private int fact(int kind, int part) {
            switch (kind) {
                case NUMBER:
                    return part;
                case EVENING:
                    return evening;
                case LIARS:
                    return Integer.bitCount(verdict.liarSet(doubted));
                case CONFLICTS:
                    return verdict.pairCount(doubted);
                case CLAIMS:
                    return told.claims.countOf(part);
                case WINDOW:
                    return verdict.windowHours(part, doubted);
                case CONTRADICT:
                    return one(verdict.tellersContradict(part >> 4, part & 15, doubted));
                case LIAR:
                    return one(has(verdict.liarSet(doubted), part));
                case DOUBTED:
                    return one(has(doubted, part));
                case AGREED:
                    return one(verdict.windowHours(part, doubted) > 0);
                default:
                    return 0;
            }
        }

        private void reckon(int kind) {
            int right = pop();
            if (kind == NEGATE) {
                push(-right);
            } else if (kind == NOT) {
                push(one(right == 0));
            } else {
                push(combine(kind, pop(), right));
            }
        }

        private static int combine(int kind, int left, int right) {
            switch (kind) {
                case '+':
                    return left + right;
                case '-':
                    return left - right;
                case '*':
                    return left * right;
                case '/':
                    return right == 0 ? 0 : left / right;
                case MIN:
                    return Math.min(left, right);
                case MAX:
                    return Math.max(left, right);
                case '<':
                    return one(left < right);
                case '>':
                    return one(left > right);
                case '=':
                    return one(left == right);
                case AT_MOST:
                    return one(left <= right);
                case AT_LEAST:
                    return one(left >= right);
                case AND:
                    return left & right;
                case OR:
                    return left | right;
                default:
                    return 0;
            }
        }
    }
}
