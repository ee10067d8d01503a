/**
 * "Terms", "1. The language" and the promises 2 to 5: the sentences that name a boundary case stand over their tests, each of
 * which asks on the boundary, short of it and past it.
 */
public final class LanguageEdgesTest {
    private static final int BLANKS = 0x20202020;

    /** Two events and two tellers, and an order whose test follows; 58 bytes. */
    private static final String WHEN = "event e; event f; teller s; teller t;        doubt s when ";

    /** What makes a test or a sum one deeper, what ends it, and at which byte the deepening token stands. */
    private static final String[] OPEN = {"not ", "[", "(", "-", "min(0,", "max("};
    private static final String[] CLOSE = {"", "]", ")", "", ")", ",0)"};
    private static final int[] TOKEN_AT = {0, 0, 0, 0, 3, 3};
    private static final int FIRST_OF_SUMS = 2;

    public static void main(String[] args) {
        theTapeIsFirstEmpty();
        theTapeHolds2000Bytes();
        aFullTapeIsReadToItsEnd();
        theHighestByteStandsFirst();
        trimKeepsNoneToAll();
        theTapeIsEmptyBehindTeach();
        errorAtTellsOfTheLatestTeach();
        blanksAndLineEndsAlone();
        tokensThatWouldBeReadAsOne();
        theLongestTokenIsRead();
        wordsOfOneToTenBytes();
        letters();
        numbersOfOneToSixDigits();
        keywordsAreNoNames();
        otherWordsAreOtherNames();
        noLineAtAll();
        depthOfOneKind();
        depthOfTwoKinds();
        depthEndsWithWhatIsTurned();
        bytesThatBeginNoToken();
        theEndOfTheTape();
        fourHundredTokens();
        otherErrorsOnlyWithoutTheFirst();
        fromLeftToRight();
        theSmallestNumberAtOneToken();
        namesToldAhead();
        namesThatAreNotWhatTheyHaveToBe();
        eightEvents();
        tenTellers();
        fortyClaims();
        sixteenOrders();
        hoursUpTo99();
        theSecondHourIsNotLess();
        twoEventsOfAClaim();
        numberedAsTold();
        limitsBeginAnew();
        Check.end();
    }

    private static int feedBlanks(StoryTapestry x) {
        return x.feed(BLANKS, BLANKS, BLANKS, BLANKS, BLANKS);
    }

    private static void test(String test, int place) {
        Check.fails(WHEN + test + ";", place < 0 ? 0 : 1, place < 0 ? -1 : WHEN.length() + place);
    }

    /** "The tape is [..] at first empty", "errorAt: -1 if [..] there was none". */
    private static void theTapeIsFirstEmpty() {
        StoryTapestry x = new StoryTapestry();
        Check.same("errorAt() ahead of all", x.errorAt(), -1);
        Check.same("trim(0) of a new tape", x.trim(0), 0);
        Check.refused(x, "trim(1) of a new tape", Check.ARGUMENT, () -> x.trim(1));
        Check.same("teach() of a new tape", x.teach(), 0);
        Check.same("errorAt() behind it", x.errorAt(), -1);
        Check.same("the first feed", feedBlanks(x), 20);
    }

    /** "at most 2000 bytes", "IllegalStateException if there would be more than 2000". */
    private static void theTapeHolds2000Bytes() {
        StoryTapestry x = new StoryTapestry();
        for (int bytes = 20; bytes <= 1980; bytes += 20) {
            Check.same("feed to " + bytes, feedBlanks(x), bytes);
        }
        x.trim(1979);
        Check.same("feed to 1999", feedBlanks(x), 1999);
        Check.refused(x, "feed to 2019", Check.STATE, () -> feedBlanks(x));
        x.trim(1980);
        Check.same("feed to 2000", feedBlanks(x), 2000);
        Check.refused(x, "feed to 2020", Check.STATE, () -> feedBlanks(x));
        x.trim(1981);
        Check.refused(x, "feed to 2001", Check.STATE, () -> x.feed(0, 0, 0, 0, 0));
        Check.refused(x, "trim(1982) behind it", Check.ARGUMENT, () -> x.trim(1982));
        Check.same("trim(1981) behind it", x.trim(1981), 1981);
        Check.same("teach() of blanks alone, as they were", x.teach(), 0);
    }

    private static void aFullTapeIsReadToItsEnd() {
        for (int length = 1998; length <= 2000; length++) {
            Check.works(Text.padded("event e;", length));
            Check.fails(Text.padded("event e", length), 1, length);
            Check.fails(Text.padded("event e;!", length), 1, length - 1);
            Check.fails(Text.padded("event e; event e;", length), 2, length - 2);
            Check.fails("event e; event e;" + " ".repeat(length - 17), 2, 15);
            Check.fails("event e;" + " ".repeat(length - 13) + "event", 1, length);
        }
        Check.fails("!" + " ".repeat(1999), 1, 0);
        Check.fails(" !" + " ".repeat(1998), 1, 1);
    }

    /** "the four bytes of each number, the highest one first" */
    private static void theHighestByteStandsFirst() {
        StoryTapestry x = new StoryTapestry();
        x.feed(0x6576656E, 0x7420613B, 0x6576656E, 0x7420623B, 0x74656C6C);
        x.feed(0x65722074, 0x3B74656C, 0x6C732074, 0x20622061, 0x74203939);
        x.feed(0x3B202020, -1, Integer.MIN_VALUE, Integer.MAX_VALUE, 0x01020304);
        x.trim(41);
        Check.same("teach() of bytes in their order", x.teach(), 0);
        Check.same("eventOf(0)", x.eventOf(0), 1);
        Check.same("firstHourOf(0)", x.firstHourOf(0), 99);
        int[][] numbers = {{0x217F80FF, 0}, {0x20217F80, 1}, {0x2020FF21, 2}, {0x20202080, 3}, {0x202020FF, 3}, {0x80202020, 0}};
        for (int[] number : numbers) {
            for (int n = 0; n < 5; n++) {
                int[] five = {BLANKS, BLANKS, BLANKS, BLANKS, BLANKS};
                five[n] = number[0];
                x.feed(five[0], five[1], five[2], five[3], five[4]);
                Check.same("teach() of " + number[0] + " at " + n, x.teach(), 1);
                Check.same("errorAt() of " + number[0] + " at " + n, x.errorAt(), n * 4 + number[1]);
            }
        }
    }

    /** "IllegalArgumentException if n is not 0 to the number of bytes of the tape" */
    private static void trimKeepsNoneToAll() {
        for (int bytes = 20; bytes <= 60; bytes += 20) {
            for (int kept = 0; kept <= bytes; kept++) {
                StoryTapestry x = new StoryTapestry();
                for (int n = 0; n < bytes; n += 20) {
                    x.feed(0x21212121, 0x21212121, 0x21212121, 0x21212121, 0x21212121);
                }
                int n = bytes + 1;
                int less = kept;
                Check.refused(x, "trim(" + n + ") of " + bytes, Check.ARGUMENT, () -> x.trim(n));
                Check.refused(x, "trim(-1) of " + bytes, Check.ARGUMENT, () -> x.trim(-1));
                Check.same("trim(" + bytes + ") of all", x.trim(bytes), bytes);
                Check.same("trim(" + kept + ")", x.trim(kept), kept);
                Check.refused(x, "trim beyond what is kept", Check.ARGUMENT, () -> x.trim(less + 1));
                Check.same("feed behind " + kept, feedBlanks(x), kept + 20);
                x.trim(kept);
                Check.same("teach() of " + kept, x.teach(), kept == 0 ? 0 : 1);
            }
        }
    }

    /** "it is empty behind it", "If it has an error, all stays (but the tape is empty)." */
    private static void theTapeIsEmptyBehindTeach() {
        String[] texts = {"", "event a;", "event", "event a; event a;", "doubt a;", Text.events(9), "event a; event b;!"};
        for (String text : texts) {
            StoryTapestry x = new StoryTapestry();
            Check.teach(x, text);
            int error = x.errorAt();
            Check.refused(x, "trim(1) behind teach() of " + text, Check.ARGUMENT, () -> x.trim(1));
            Check.same("trim(0) behind teach() of " + text, x.trim(0), 0);
            Check.same("errorAt() stays behind trim", x.errorAt(), error);
            Check.same("feed behind teach() of " + text, feedBlanks(x), 20);
            Check.same("errorAt() stays behind feed", x.errorAt(), error);
            Check.same("teach() of blanks", x.teach(), 0);
            Check.same("events() behind it", x.events(), 0);
        }
        StoryTapestry full = new StoryTapestry();
        for (int round = 0; round < 3; round++) {
            for (int bytes = 20; bytes <= 2000; bytes += 20) {
                Check.same("feed in the round " + round, feedBlanks(full), bytes);
            }
            Check.same("teach() of a full tape", full.teach(), 0);
        }
    }

    /** "the position of the error of the latest teach(); -1 if it had none" */
    private static void errorAtTellsOfTheLatestTeach() {
        StoryTapestry x = new StoryTapestry();
        String[] texts = {"!", "event a;", " !", "event a; event a;", "", "tells", "teller t; doubt t;", "doubt q;"};
        int[] places = {0, -1, 1, 15, -1, 5, -1, 6};
        for (int n = 0; n < texts.length; n++) {
            Check.teach(x, texts[n]);
            Check.same("errorAt() of " + texts[n], x.errorAt(), places[n]);
            x.passEvenings(1);
            x.digest();
            Check.refused(x, "takeBack(0)", Check.INDEX, () -> x.takeBack(0));
            Check.same("errorAt() of " + texts[n] + " behind other calls", x.errorAt(), places[n]);
        }
    }

    /** "Blanks (32) and line ends (10) can stand between tokens, at the beginning and at the end" */
    private static void blanksAndLineEndsAlone() {
        for (int sign = 0; sign < 256; sign++) {
            boolean blank = sign == 32 || sign == 10;
            boolean inWord = sign >= 'a' && sign <= 'z' || sign >= '0' && sign <= '9';
            String text = "" + (char) sign;
            Check.fails(text + "event e;", blank ? 0 : 1, blank ? -1 : 0);
            Check.fails("event e" + text + ";", blank || inWord ? 0 : 1, blank || inWord ? -1 : sign == ';' ? 8 : 7);
            Check.fails("event e;" + text, blank ? 0 : 1, blank ? -1 : 8);
            Check.fails("event" + text + "e;", blank ? 0 : 1, blank ? -1 : inWord ? 0 : 5);
        }
        Check.works("\n\n \nevent\n\n e \n;\n \n");
        Check.works("event e;event f;teller t;tells t e at 1to 2;doubt t when 1<2and[-1<- 1]or not liar t;");
    }

    /** "and have to stand between two tokens that would otherwise be read as one" */
    private static void tokensThatWouldBeReadAsOne() {
        Check.fails("evente;", 1, 0);
        Check.fails("event e; tellert;", 1, 9);
        test("liars", 5);
        test("liar s", -1);
        test("notliar s", 0);
        test("not liar s", -1);
        test("1=1andliar s", 3);
        test("1=1and liar s", -1);
        test("1 1=11", 2);
        test("11=11", -1);
        test("1< =1", 3);
        test("1<=1", -1);
        test("1> =1", 3);
        test("1>=1", -1);
        test("claims ofs=1", 7);
        test("claims of s=1", -1);
        test("claimsof s=1", 0);
    }

    /** "The longest possible token is always read." */
    private static void theLongestTokenIsRead() {
        test("1<=2", -1);
        test("1<==2", 3);
        test("1>=-2", -1);
        test("1>==2", 3);
        test("1=<2", 2);
        test("1=>2", 2);
        test("1==2", 2);
        test("1<>2", 2);
        test("1<-2", -1);
        test("1<", 2);
        test("1>", 2);
        Check.fails("event at; ", 1, 6);
        Check.works("event at1; event ate; event a; event t;");
        Check.fails(WHEN + "1=1; tells s e at 9to9;", 1, WHEN.length() + 19);
        Check.works(WHEN + "1=1; tells s e at 9to 9;");
        test("1=1 and evenings=1", 8);
        test("min(1,2)=minmax", 9);
        StoryTapestry x = Check.taught("teller a; teller ab; teller abc; doubt ab;");
        x.passEvenings(1);
        Check.yes("isDoubted(1) of ab, not of a", x.isDoubted(1) && !x.isDoubted(0) && !x.isDoubted(2));
    }

    /** "A word: a letter a to z, followed by letters a to z and digits, at most 10 bytes." */
    private static void wordsOfOneToTenBytes() {
        String word = "abcdefghijklm";
        String mixed = "z9y8x7w6v5u4t";
        for (int length = 1; length <= 13; length++) {
            int error = length <= 10 ? 0 : 1;
            Check.fails("event " + word.substring(0, length) + ";", error, error == 0 ? -1 : 6);
            Check.fails("teller " + mixed.substring(0, length) + ";", error, error == 0 ? -1 : 7);
            Check.fails("event e; teller t; tells t " + word.substring(0, length) + " at 1;", error == 0 ? 3 : 1, 27);
        }
        Check.fails("eventevent;", 1, 0);
        Check.fails("contradict;", 1, 0);
        Check.fails("contradicts;", 1, 0);
        Check.works("event abcdefghij; event abcdefghik; event bbcdefghij; event abcdefghi;");
        Check.fails("event abcdefghij; event abcdefghij;", 2, 24);
    }

    private static void letters() {
        for (int sign = 0; sign < 256; sign++) {
            boolean letter = sign >= 'a' && sign <= 'z';
            boolean digit = sign >= '0' && sign <= '9';
            if (sign != ' ' && sign != '\n') {
                Check.fails("event " + (char) sign + "x;", letter ? 0 : 1, letter ? -1 : 6);
            }
            if (sign != ' ' && sign != '\n' && sign != ';') {
                Check.fails("event x" + (char) sign + ";", letter || digit ? 0 : 1, letter || digit ? -1 : 7);
            }
        }
    }

    /** "A number: 1 to 6 digits." */
    private static void numbersOfOneToSixDigits() {
        for (int length = 1; length <= 9; length++) {
            int error = length <= 6 ? 0 : 1;
            String zeros = "0".repeat(length);
            String nines = "9".repeat(length);
            test(nines + "=" + zeros, error == 0 ? -1 : 0);
            Check.fails("event e; teller t; tells t e at " + zeros + ";", error, error == 0 ? -1 : 32);
            Check.fails("event e; teller t; tells t e at 0 to " + zeros + ";", error, error == 0 ? -1 : 37);
            Check.fails("event e; teller t; tells t e at " + nines + ";", error == 1 ? 1 : length > 2 ? 5 : 0, length <= 2 ? -1 : 32);
        }
        test("999999=1000000", 7);
        test("-999999<-1000000", 9);
        test("1=12345678", 2);
        test("4294967296=0", 0);
        StoryTapestry x = Check.taught("event e; teller t; tells t e at 000007 to 000099; doubt t when 999999-999998=000001;");
        Check.same("firstHourOf(0) with zeros ahead", x.firstHourOf(0), 7);
        Check.same("lastHourOf(0) with zeros ahead", x.lastHourOf(0), 99);
        Check.same("passEvenings(1) of the greatest numbers", x.passEvenings(1), 1);
    }

    /** "The keywords are: [..] All other words are names." */
    private static void keywordsAreNoNames() {
        String[] keywords = ("event teller tells at to before with doubt believe when evening liars conflicts doubted claims window of"
                + " contradict liar agreed not and or min max").split(" ");
        for (String keyword : keywords) {
            Check.fails("event " + keyword + ";", 1, 6);
            Check.fails("teller " + keyword + ";", 1, 7);
            String less = keyword.substring(0, keyword.length() - 1);
            boolean other = java.util.Arrays.asList(keywords).contains(less);
            Check.fails("event " + less + ";", other ? 1 : 0, other ? 6 : -1);
            Check.works("event " + keyword.substring(1) + ";");
            boolean more = java.util.Arrays.asList(keywords).contains(keyword + "s");
            Check.fails("event " + keyword + "s;", more || keyword.length() == 10 ? 1 : 0, more || keyword.length() == 10 ? 6 : -1);
        }
        Check.works("event events; event tell; event hour; event is; event truth; event if; event a; event x;");
    }

    /** No two words are the same name, however near they stand: the first signs are beside each other, the others any two. */
    private static void otherWordsAreOtherNames() {
        String signs = "abcdefghijklmnopqrstuvwxyz0123456789";
        for (char one : signs.toCharArray()) {
            for (char other : signs.toCharArray()) {
                Check.works("event y" + one + "; event x" + other + "; event y" + one + "a; event x" + other + "z9;");
                Check.works("event yzzzzzzzz" + one + "; event xzzzzzzzz" + other + "; event y99999999" + one + ";");
            }
        }
        Check.fails("event yzzzzzzzz9; event xzzzzzzzz9; event yzzzzzzzz9;", 2, 42);
        Check.fails("event a; event aa; event aaa; event aaaaaaaaaa; event aaaaaaaaa; event aa;", 2, 71);
    }

    /** "{ x } any number of times, also none": a tapestry without a line, sums and tests of one part. */
    private static void noLineAtAll() {
        StoryTapestry x = Check.taught("event e; teller t; tells t e at 3; doubt t;");
        x.passEvenings(3);
        Check.same("teach() of nothing", x.teach(), 0);
        Answers.same("nothing is told behind it", x, new StoryTapestry());
        Check.fails(";", 1, 0);
        Check.fails("event e;;", 1, 8);
        test("1=1", -1);
        test("", 0);
        test("1", 1);
        test("1=", 2);
        test("=1", 0);
        test("1=1=1", 3);
    }

    /** What stands in the depth: some of one kind, some of another one in them, and a smallest test or sum inside. */
    private static String nested(int outer, int many, int inner, int more) {
        boolean sums = inner >= FIRST_OF_SUMS && (more > 0 || outer >= FIRST_OF_SUMS) || more == 0 && outer >= FIRST_OF_SUMS;
        String text = OPEN[outer].repeat(many) + OPEN[inner].repeat(more) + (sums ? "1" : "liar s");
        String closed = text + CLOSE[inner].repeat(more);
        boolean compareInside = outer < FIRST_OF_SUMS && sums;
        return closed + (compareInside ? "=1" : "") + CLOSE[outer].repeat(many) + (sums && !compareInside ? "=1" : "");
    }

    /** "It may be at most 8.": between ( and ), between [ and ], behind a - in front and behind a not. */
    private static void depthOfOneKind() {
        for (int kind = 0; kind < OPEN.length; kind++) {
            for (int depth = 1; depth <= 12; depth++) {
                test(nested(kind, depth, kind, 0), depth <= 8 ? -1 : 8 * OPEN[kind].length() + TOKEN_AT[kind]);
            }
        }
    }

    private static void depthOfTwoKinds() {
        for (int outer = 0; outer < OPEN.length; outer++) {
            for (int inner = outer < FIRST_OF_SUMS ? 0 : FIRST_OF_SUMS; inner < OPEN.length; inner++) {
                for (int many = 1; many <= 8; many++) {
                    test(nested(outer, many, inner, 8 - many), -1);
                    int place = many * OPEN[outer].length() + (8 - many) * OPEN[inner].length() + TOKEN_AT[inner];
                    test(nested(outer, many, inner, 9 - many), place);
                }
            }
        }
    }

    /** "1 greater between a ( and its ), a [ and its ], behind a - in front (of a value) for what it turns, [..]" */
    private static void depthEndsWithWhatIsTurned() {
        String eight = "(".repeat(8) + "1" + ")".repeat(8);
        String nine = "(".repeat(9) + "1" + ")".repeat(9);
        String deep = "[".repeat(8) + "liar s" + "]".repeat(8);
        String[] shallow = {"(1)+", "-1+", "-1*", "min(1,1)-", "1-", "--1/", "max(-1,(1))+"};
        for (String start : shallow) {
            test(start + eight + "=1", -1);
            test(start + nine + "=1", start.length() + 8);
            test("1=" + start + eight, -1);
        }
        String[] before = {"not liar s and ", "[liar s] or ", "not not -1=1 and ", "-1=1 or ", "(1)=1 and ", "agreed e or "};
        for (String start : before) {
            test(start + deep, -1);
            test(start + "[" + deep + "]", start.length() + 8);
            test(start + "1=" + eight, -1);
            test(deep + " and " + start + deep, -1);
        }
        test("not 1=" + "(".repeat(7) + "1" + ")".repeat(7), -1);
        test("not 1=" + eight, 6 + 7);
        test("not " + eight + "=1", 4 + 7);
        test("not liar s and not " + "[".repeat(7) + "liar s" + "]".repeat(7), -1);
        test("-(1)-" + eight + "=1", -1);
        test("-" + eight + "=1", 1 + 7);
        test("min(" + "(".repeat(7) + "1" + ")".repeat(7) + "," + "-".repeat(7) + "1)=1", -1);
        test("min(1," + eight + ")=1", 6 + 7);
        test("min(" + eight + ",1)=1", 4 + 7);
        Check.works(WHEN + deep + "; believe s when " + deep + "; doubt t when 1=" + eight + ";");
    }

    /** "This includes a byte with which no token begins" */
    private static void bytesThatBeginNoToken() {
        for (int sign = 0; sign < 256; sign++) {
            boolean begins = sign >= 'a' && sign <= 'z' || sign >= '0' && sign <= '9' || "()[];,+-*/<>= \n".indexOf(sign) >= 0;
            if (!begins) {
                test("1" + (char) sign + "=1", 1);
                test((char) sign + "1=1", 0);
                test("1=1" + (char) sign, 3);
                test("1=1 and li" + (char) sign + " s", 8);
            }
        }
    }

    /** "the end of the tape (at its length)" */
    private static void theEndOfTheTape() {
        String text = "event e; event f; teller t; tells t e at 1 to 3; tells t e before f; doubt t when [liar t or min(-1,(2))<=window of e];";
        for (int length = 0; length < text.length(); length++) {
            StoryTapestry x = new StoryTapestry();
            int error = Check.teach(x, text.substring(0, length));
            String left = text.substring(0, length).trim();
            boolean whole = left.isEmpty() || left.endsWith(";");
            Check.same("teach() of the first " + length, error, whole ? 0 : 1);
            int end = whole ? -1 : endOrCutWord(text, length);
            Check.same("errorAt() of the first " + length, x.errorAt(), end);
        }
        Check.fails("event e", 1, 7);
        Check.fails("event e ", 1, 8);
        Check.fails("event e\n \n", 1, 10);
        Check.fails("event", 1, 5);
        Check.fails("e", 1, 0);
    }

    /** The length, or, where a keyword is cut, the place at which what is left of it begins, as that is a name. */
    private static int endOrCutWord(String text, int length) {
        int start = length;
        while (start > 0 && Character.isLetter(text.charAt(start - 1))) {
            start--;
        }
        int end = length;
        while (Character.isLetter(text.charAt(end))) {
            end++;
        }
        boolean cut = start < length && length < end && end - start > 1;
        return cut ? start : length;
    }

    /** So many tokens: 9 are taken by the teller and the order, and two more for each + 1; a - ahead makes one more. */
    private static String tokens(int count) {
        int more = count - 10;
        return "teller s; doubt s when " + (more % 2 == 0 ? "" : "-") + "1" + "+1".repeat(more / 2) + "=1;";
    }

    /** "and the token that would be the 401st (the end of the tape not counted)" */
    private static void fourHundredTokens() {
        for (int count = 397; count <= 404; count++) {
            String text = tokens(count);
            int over = text.length() - (count - 400);
            Check.fails(text, count <= 400 ? 0 : 1, count <= 400 ? -1 : over);
            Check.fails(text + " \n", count <= 400 ? 0 : 1, count <= 400 ? -1 : over);
            Check.fails(text + " event e;", count <= 397 ? 0 : 1, count <= 397 ? -1 : count > 400 ? over : placeOf401st(text, count));
        }
        Check.fails(tokens(400) + "!", 1, tokens(400).length());
        Check.fails(tokens(399) + "!", 1, tokens(399).length());
        Check.fails(tokens(400) + ";", 1, tokens(400).length());
        Check.fails(tokens(400).substring(0, tokens(400).length() - 1), 1, tokens(400).length() - 1);
        Check.fails(tokens(401).substring(0, tokens(401).length() - 1), 1, tokens(401).length() - 1);
        Check.fails(tokens(397) + "teller s;", 2, tokens(397).length() + 7);
        Check.fails(tokens(398) + "teller s;", 1, tokens(398).length() + 8);
    }

    /** Where event, e and ; stand behind so many tokens and a blank. */
    private static int placeOf401st(String text, int count) {
        int[] places = {text.length() + 1, text.length() + 7, text.length() + 8};
        return places[400 - count];
    }

    /** "Only if there is no error 1, keywords, names and numbers are looked at" */
    private static void otherErrorsOnlyWithoutTheFirst() {
        String[] wrong = {"event a; event a;", "tells q q at 1;", Text.events(9), "event a; teller t; tells t a at 100;", "doubt q;",
            Text.tellers(11)};
        int[] errors = {2, 3, 4, 5, 3, 4};
        for (int n = 0; n < wrong.length; n++) {
            StoryTapestry x = new StoryTapestry();
            Check.same("teach() of " + wrong[n], Check.teach(x, wrong[n]), errors[n]);
            Check.fails(wrong[n] + " !", 1, wrong[n].length() + 1);
            Check.fails(wrong[n] + " event", 1, wrong[n].length() + 6);
            Check.fails(wrong[n] + "doubt b when " + "-".repeat(9) + "1=1;", 1, wrong[n].length() + 13 + 8);
            Check.fails(wrong[n] + "event abcdefghijk;", 1, wrong[n].length() + 6);
        }
    }

    /** "from left to right, and the first error is told, at its token" */
    private static void fromLeftToRight() {
        String two = "event a; event a;";
        String three = "doubt q;";
        String five = "tells t b at 100;";
        String start = "event b; teller t; ";
        Check.fails(start + two + three + five, 2, 19 + 15);
        Check.fails(start + three + two + five, 3, 19 + 6);
        Check.fails(start + five + three + two, 5, 19 + 13);
        Check.fails(start + five + two + three, 5, 19 + 13);
        Check.fails(start + three + three, 3, 19 + 6);
        Check.fails("teller u; teller v; " + Text.events(9) + two, 4, 20 + Text.events(8).length() + 6);
        Check.fails(two + Text.events(9), 2, 15);
        Check.fails(start + "tells u q at 100 to 99;", 3, 19 + 6);
        Check.fails(start + "tells t q at 100 to 99;", 3, 19 + 8);
        Check.fails(start + "tells t b at 100 to 99;", 5, 19 + 13);
        Check.fails(start + "tells t b at 99 to 98;", 5, 19 + 19);
        Check.fails(start + "doubt u when liar v and agreed w;", 3, 19 + 6);
        Check.fails(start + "doubt t when liar v and agreed w;", 3, 19 + 18);
        Check.fails(start + "doubt t when liar t and agreed w;", 3, 19 + 31);
    }

    /** "of errors at one token the one with the smallest number" */
    private static void theSmallestNumberAtOneToken() {
        String events = Text.events(8);
        String tellers = Text.tellers(10);
        Check.fails(events + "event e0;", 2, events.length() + 6);
        Check.fails(events + "event e7;", 2, events.length() + 6);
        Check.fails(events + "event e8;", 4, events.length() + 6);
        Check.fails(tellers + "teller t0;", 2, tellers.length() + 7);
        Check.fails(tellers + "teller t9;", 2, tellers.length() + 7);
        Check.fails(tellers + "teller u;", 4, tellers.length() + 7);
        Check.fails("event a; teller t; tells t b before b;", 3, 27);
        Check.fails("event a; teller t; tells t a before b;", 3, 36);
        Check.fails("event a; teller t; tells t a before a;", 5, 36);
    }

    /** "Error 2: the name behind event is that of an event told ahead, or the one behind teller that of a teller told ahead." */
    private static void namesToldAhead() {
        for (int n = 0; n < 8; n++) {
            String events = Text.events(n);
            for (int name = 0; name <= n; name++) {
                Check.fails(events + "event e" + name + ";", name < n ? 2 : 0, name < n ? events.length() + 6 : -1);
                Check.works(events + "teller e" + name + ";");
            }
        }
        for (int n = 0; n < 10; n++) {
            String tellers = Text.tellers(n);
            for (int name = 0; name <= n; name++) {
                Check.fails(tellers + "teller t" + name + ";", name < n ? 2 : 0, name < n ? tellers.length() + 7 : -1);
                Check.works(tellers + "event t" + name + ";");
            }
        }
        StoryTapestry x = Check.taught("event e; teller t;");
        Check.same("teach() of the names of the tapestry before", Check.teach(x, "teller t; event e;"), 0);
    }

    /** "Error 3: [..] in a claim, behind agreed and behind window of, an event; elsewhere, a teller." The ? is the name. */
    private static void namesThatAreNotWhatTheyHaveToBe() {
        String[] events = {"tells t ? at 3;", "tells t ? before f;", "tells t f before ?;", "tells t ? with f;", "tells t f with ?;",
            "doubt t when agreed ?;", "doubt t when window of ?=1;", "doubt t when 1=min(1,-window of ?);"};
        String[] tellers = {"tells ? f at 3;", "tells ? f before g;", "tells ? f with g;", "doubt ?;", "believe ?;", "doubt ? when 1=1;",
            "believe t when contradict ? t;", "doubt t when contradict t ?;", "doubt t when contradict ? ?;", "doubt t when liar ?;",
            "doubt t when not [doubted ?];", "doubt t when claims of ?<1;", "doubt t when 1=1 or claims of t=claims of ?;"};
        for (String line : events) {
            oneName(line, "event ", "teller ");
        }
        for (String line : tellers) {
            oneName(line, "teller ", "event ");
        }
    }

    private static void oneName(String line, String right, String wrong) {
        String start = "event f; event g; teller t; ";
        String named = line.replace('?', 'n');
        int place = start.length() + line.indexOf('?');
        Check.works(start + right + "n; " + named);
        Check.works(start + wrong + "n; " + right + "n; " + named);
        Check.fails(start + named, 3, place);
        Check.fails(start + named + right + "n;", 3, place);
        Check.fails(start + wrong + "n; " + named, 3, place + wrong.length() + 3);
    }

    /** "Error 4: the name of the 9th event" */
    private static void eightEvents() {
        for (int count = 7; count <= 10; count++) {
            Check.fails(Text.events(count), count <= 8 ? 0 : 4, count <= 8 ? -1 : Text.events(8).length() + 6);
            String mixed = Text.tellers(10) + Text.events(count);
            Check.fails(mixed, count <= 8 ? 0 : 4, count <= 8 ? -1 : Text.tellers(10).length() + Text.events(8).length() + 6);
        }
        Check.same("events() of 8", Check.taught(Text.events(8)).events(), 8);
    }

    /** "or of the 11th teller" */
    private static void tenTellers() {
        for (int count = 9; count <= 12; count++) {
            Check.fails(Text.tellers(count), count <= 10 ? 0 : 4, count <= 10 ? -1 : Text.tellers(10).length() + 7);
            String mixed = Text.events(8) + Text.tellers(count);
            Check.fails(mixed, count <= 10 ? 0 : 4, count <= 10 ? -1 : Text.events(8).length() + Text.tellers(10).length() + 7);
        }
        Check.same("tellers() of 10", Check.taught(Text.tellers(10)).tellers(), 10);
    }

    /** "the tells of the 41st claim" */
    private static void fortyClaims() {
        String start = "event a; event b; teller t; doubt t; ";
        String[] lines = {"tells t a at 1; ", "tells t a before b; ", "tells t b with a; "};
        for (int count = 39; count <= 42; count++) {
            StringBuilder text = new StringBuilder(start);
            int place = -1;
            for (int n = 0; n < count; n++) {
                place = n == 40 ? text.length() : place;
                text.append(lines[n % 3]);
            }
            Check.fails(text.toString(), count <= 40 ? 0 : 4, place);
            Check.fails(text + "believe t;", count <= 40 ? 0 : 4, place);
            if (count == 40) {
                Check.same("claims() of 40", Check.taught(text.toString()).claims(), 40);
                Check.fails(text + "tells q q at 100;", 4, text.length());
                Check.fails(text + "tells t a before a;", 4, text.length());
                Check.fails(text + "doubt q; tells t a at 1;", 3, text.length() + 6);
            }
        }
    }

    /** "or the doubt or believe of the 17th order (of both together)" */
    private static void sixteenOrders() {
        for (int mix = 0; mix < 4; mix++) {
            for (int count = 15; count <= 18; count++) {
                StringBuilder text = new StringBuilder("teller t; ");
                int place = -1;
                for (int n = 0; n < count; n++) {
                    place = n == 16 ? text.length() : place;
                    boolean doubts = mix == 0 || mix == 2 && n % 2 == 0 || mix == 3 && n < 16;
                    text.append(doubts ? "doubt t; " : "believe t when doubted t; ");
                }
                Check.fails(text.toString(), count <= 16 ? 0 : 4, place);
                if (count == 16) {
                    Check.fails(text + "doubt q when liar q;", 4, text.length());
                    Check.fails(text + "event e; believe t;", 4, text.length() + 9);
                    Check.fails(text + "event e; event e; believe t;", 2, text.length() + 15);
                }
            }
        }
        StoryTapestry x = Check.taught("teller t; " + "doubt t; believe t; ".repeat(8));
        Check.same("passEvenings(1) of 16 orders", x.passEvenings(1), 16);
    }

    /** "Error 5: a number behind at or to is greater than 99" */
    private static void hoursUpTo99() {
        String start = "event e; teller t; tells t e at ";
        int[] hours = {0, 1, 98, 99, 100, 101, 999, 1000, 99999, 100000, 999999};
        for (int hour : hours) {
            boolean good = hour <= 99;
            Check.fails(start + hour + ";", good ? 0 : 5, good ? -1 : 32);
            Check.fails(start + "0 to " + hour + ";", good ? 0 : 5, good ? -1 : 37);
            Check.fails(start + hour + " to " + hour + ";", good ? 0 : 5, good ? -1 : 32);
            Check.fails(start + "99 to " + hour + ";", hour == 99 ? 0 : 5, hour == 99 ? -1 : 38);
        }
        Check.works("teller t; doubt t when 100<999999 and 100-999999<0;");
    }

    /** "the second one also, if it is less than the first one" */
    private static void theSecondHourIsNotLess() {
        for (int first = 0; first <= 99; first += first < 5 || first > 93 ? 1 : 8) {
            for (int second = Math.max(0, first - 2); second <= Math.min(99, first + 2); second++) {
                String start = "event e; teller t; tells t e at " + first + " to ";
                Check.fails(start + second + ";", second >= first ? 0 : 5, second >= first ? -1 : start.length());
            }
        }
        Check.works("event e; teller t; tells t e at 9; tells t e at 3; tells t e at 8 to 9; tells t e at 0 to 1;");
    }

    /** "or the second name of a claim with before or with, if it is the first one as well" */
    private static void twoEventsOfAClaim() {
        String start = Text.events(8) + "teller e0; tells e0 e";
        for (int first = 0; first < 8; first++) {
            for (int second = 0; second < 8; second++) {
                String before = start + first + " before e";
                String with = start + first + " with e";
                Check.fails(before + second + ";", first == second ? 5 : 0, first == second ? before.length() - 1 : -1);
                Check.fails(with + second + ";", first == second ? 5 : 0, first == second ? with.length() - 1 : -1);
            }
        }
    }

    /** "are numbered from 0 in the order in which they are told. An event can have the name of a teller." */
    private static void numberedAsTold() {
        StoryTapestry x = Check.taught("teller n; event m; event n; tells n n before m; teller m; doubt m; tells m m at 7; tells m n at 0;"
                + "event o; tells n o with m; believe n; doubt n;");
        int[][] due = {{0, 1, 1}, {1, 0, 0}, {1, 0, 1}, {0, 2, 2}};
        for (int n = 0; n < due.length; n++) {
            Check.same("tellerOf(" + n + ")", x.tellerOf(n), due[n][0]);
            Check.same("kindOf(" + n + ")", x.kindOf(n), due[n][1]);
            Check.same("eventOf(" + n + ")", x.eventOf(n), due[n][2]);
        }
        Check.same("passEvenings(1)", x.passEvenings(1), 2);
        Check.yes("isDoubted(0), by the last order", x.isDoubted(0));
        StoryTapestry many = Check.taught(Text.events(8) + Text.tellers(10) + "tells t9 e7 at 7; tells t0 e0 at 5; tells t9 e0 before e7;");
        Check.same("tellerOf(0) of the last teller", many.tellerOf(0), 9);
        Check.same("eventOf(0) of the last event", many.eventOf(0), 7);
        Check.same("tellerOf(1) of the first teller", many.tellerOf(1), 0);
        Check.same("eventOf(1) of the first event", many.eventOf(1), 0);
        Check.same("secondEventOf(2)", many.secondEventOf(2), 7);
    }

    /** "in the place of all that was told before; all begins anew": a full tapestry leaves room for a full one. */
    private static void limitsBeginAnew() {
        String full = Text.events(8) + Text.tellers(10) + "tells t9 e7 at 7;".repeat(40) + "doubt t9; believe t9;".repeat(8);
        StoryTapestry x = Check.taught(full);
        x.passEvenings(1);
        Check.same("teach() of a full one behind a full one", Check.teach(x, full), 0);
        Check.same("digest() of the full one behind it", x.digest(), Check.taught(full).digest());
        Check.same("ordersCarriedOut() behind it", x.ordersCarriedOut(), 0);
        x.passEvenings(1);
        Check.same("teach() of one event more", Check.teach(x, Text.events(9)), 4);
        Check.same("claims() behind it", x.claims(), 40);
        Check.same("ordersCarriedOut() of the full one", x.ordersCarriedOut(), 16);
        Check.same("teach() of less", Check.teach(x, "event z; teller y;"), 0);
        Answers.same("answers of less", x, Check.taught("event z; teller y;"));
    }
}
