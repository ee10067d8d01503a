/** Promises 4 and 5: the language, its five errors, their places and their order. */
public final class ErrorsTest {
    /** Two events, two tellers; 40 bytes. */
    private static final String HEAD = "event e; event f; teller s; teller t;   ";

    private static final String[] KEYWORDS = ("event teller tells at to before with doubt believe when evening liars"
            + " conflicts doubted claims window of contradict liar agreed not and or min max").split(" ");

    public static void main(String[] args) {
        emptyTapes();
        bytesAndBlanks();
        words();
        numbers();
        symbols();
        lines();
        claimLines();
        orderLines();
        tests();
        sums();
        depth();
        tokenLimit();
        toldTwice();
        notTold();
        tooMany();
        outOfRange();
        senseComesFirst();
        firstErrorCounts();
        Check.end();
    }

    private static void test(String test, int place) {
        String start = HEAD + "doubt s when ";
        Check.fails(start + test + ";", place < 0 ? 0 : 1, place < 0 ? -1 : start.length() + place);
    }

    private static String times(int n, String text) {
        return text.repeat(n);
    }

    private static void emptyTapes() {
        Check.works("");
        Check.works(" ");
        Check.works(" \n\n  ");
        StoryTapestry x = new StoryTapestry();
        Check.same("teach() of an error", Check.teach(x, "  event e; event"), 1);
        Check.same("errorAt()", x.errorAt(), 16);
        Check.same("teach() of no error", x.teach(), 0);
        Check.same("errorAt() behind it", x.errorAt(), -1);
    }

    private static void bytesAndBlanks() {
        Check.works("event\ne\n;\n\n  event  f;");
        Check.works("event e;event f;teller s;tells s e at 3;tells s e before f;");
        for (int sign = 0; sign < 256; sign++) {
            boolean begins = sign >= 'a' && sign <= 'z' || sign == ' ' || sign == '\n';
            if (!begins) {
                Check.fails("event e; " + (char) sign, 1, 9);
                Check.fails("event " + (char) sign, 1, 6);
            }
        }
        Check.fails("event\te;", 1, 5);
        Check.fails("event e;\r\n", 1, 8);
        Check.fails("Event e;", 1, 0);
        Check.fails("event eE;", 1, 7);
        Check.fails("event e\0;", 1, 7);
        Check.fails("event e_f;", 1, 7);
    }

    private static void words() {
        Check.works("event abcdefghij;");
        Check.works("event a123456789;");
        Check.works("event z0az9;");
        Check.fails("event abcdefghijk;", 1, 6);
        Check.fails("event a1234567890;", 1, 6);
        Check.fails("event " + times(300, "q") + ";", 1, 6);
        Check.fails("evente;", 1, 0);
        Check.fails("eventeventevent e;", 1, 0);
        Check.fails("event 1a;", 1, 6);
        Check.works("event events; event even; event eventt; event minmax; event not1;");
        Check.works("event abcdefghij; event abcdefghii; event abcdefgiij; event bbcdefghij; event a; event a0; event a00;");
        Check.fails("event abcdefghij; event abcdefghij;", 2, 24);
        String signs = "abcdefghijklmnopqrstuvwxyz0123456789";
        for (char sign : signs.toCharArray()) {
            for (char other : signs.toCharArray()) {
                Check.fails("event y" + sign + "5; event y" + other + "5;", sign == other ? 2 : 0, sign == other ? 17 : -1);
            }
        }
        Check.works("event a0; event dl; event z9; event z; event b; event ba; event aa; event aaa;");
        for (String keyword : KEYWORDS) {
            Check.fails("event " + keyword + ";", 1, 6);
            Check.fails("teller " + keyword + ";", 1, 7);
            if (keyword.length() < 10) {
                Check.works("event " + keyword + "x; teller " + keyword + "1;");
            }
        }
    }

    private static void numbers() {
        String tells = HEAD + "tells s e at ";
        Check.works(tells + "0;");
        Check.works(tells + "99;");
        Check.works(tells + "000099;");
        Check.fails(tells + "0000099;", 1, 53);
        Check.fails(tells + "9999999;", 1, 53);
        Check.fails(tells + times(200, "0") + ";", 1, 53);
        Check.works(tells + "3to 9;");
        Check.fails(tells + "3to9;", 1, 54);
        Check.fails(HEAD + "tells s e at3;", 1, 50);
        test("999999 = 999999", -1);
        test("999999 = 1000000", 9);
        Check.fails("event e; 7", 1, 9);
    }

    private static void symbols() {
        test("1<2", -1);
        test("1>2", -1);
        test("1=2", -1);
        test("1<=2", -1);
        test("1>=2", -1);
        test("1< =2", 3);
        test("1> =2", 3);
        test("1=<2", 2);
        test("1=>2", 2);
        test("1==2", 2);
        test("1<>2", 2);
        test("1<<2", 2);
        test("1<==2", 3);
        test("1!2", 1);
        test("1&2", 1);
        test("1%2=1", 1);
        test("{1=1}", 0);
        Check.fails(HEAD + "doubt s when 1<", 1, 55);
        Check.fails(HEAD + "doubt s when 1>=", 1, 56);
    }

    private static void lines() {
        Check.fails(";", 1, 0);
        Check.fails("event e;;", 1, 8);
        Check.fails("e;", 1, 0);
        Check.fails("event", 1, 5);
        Check.fails("event   ", 1, 8);
        Check.fails("event;", 1, 5);
        Check.fails("event e", 1, 7);
        Check.fails("event e  \n", 1, 10);
        Check.fails("event e event f;", 1, 8);
        Check.fails("event e f;", 1, 8);
        Check.fails("event e, f;", 1, 7);
        Check.fails("teller", 1, 6);
        Check.fails("teller;", 1, 6);
        Check.fails("teller t", 1, 8);
        Check.fails("teller t u;", 1, 9);
        for (String keyword : KEYWORDS) {
            boolean begins = "event teller tells doubt believe".contains(keyword) && !keyword.equals("or");
            Check.fails(keyword, 1, begins ? keyword.length() : 0);
        }
    }

    private static void claimLines() {
        String tells = HEAD + "tells";
        Check.fails(tells, 1, 45);
        Check.fails(tells + ";", 1, 45);
        Check.fails(tells + " s", 1, 47);
        Check.fails(tells + " s;", 1, 47);
        Check.fails(tells + " s at 3;", 1, 48);
        Check.fails(tells + " s e", 1, 49);
        Check.fails(tells + " s e;", 1, 49);
        Check.fails(tells + " s e 3;", 1, 50);
        Check.fails(tells + " s e f;", 1, 50);
        Check.fails(tells + " s e to 3;", 1, 50);
        Check.fails(tells + " s e at;", 1, 52);
        Check.fails(tells + " s e at e;", 1, 53);
        Check.fails(tells + " s e at -3;", 1, 53);
        Check.fails(tells + " s e at evening;", 1, 53);
        Check.fails(tells + " s e at 3 9;", 1, 55);
        Check.fails(tells + " s e at 3 to;", 1, 57);
        Check.fails(tells + " s e at 3 to e;", 1, 58);
        Check.fails(tells + " s e at 3 to 9 to 9;", 1, 60);
        Check.fails(tells + " s e at 3 before f;", 1, 55);
        Check.fails(tells + " s e before;", 1, 56);
        Check.fails(tells + " s e before 3;", 1, 57);
        Check.fails(tells + " s e before f to 3;", 1, 59);
        Check.fails(tells + " s e before f f;", 1, 59);
        Check.fails(tells + " s e with;", 1, 54);
        Check.fails(tells + " s e with at;", 1, 55);
        Check.fails(tells + " s e with f with e;", 1, 57);
        Check.works(tells + " s e at 3;tells t f at 3 to 3;tells s f before e;tells t e with f;");
    }

    private static void orderLines() {
        Check.fails(HEAD + "doubt", 1, 45);
        Check.fails(HEAD + "doubt;", 1, 45);
        Check.fails(HEAD + "doubt s", 1, 47);
        Check.fails(HEAD + "doubt s t;", 1, 48);
        Check.fails(HEAD + "doubt s when", 1, 52);
        Check.fails(HEAD + "doubt s when;", 1, 52);
        Check.fails(HEAD + "doubt s 1=1;", 1, 48);
        Check.fails(HEAD + "doubt s when 1=1 when 1=1;", 1, 57);
        Check.fails(HEAD + "believe;", 1, 47);
        Check.fails(HEAD + "believe s believe t;", 1, 50);
        Check.works(HEAD + "doubt s;believe s;doubt s when 1=1;believe t when liar t;");
    }

    private static void tests() {
        test("liar s", -1);
        test("liar", 4);
        test("liar 1", 5);
        test("liar s t", 7);
        test("liar s = 1", 7);
        test("liars = 1", -1);
        test("liars", 5);
        test("doubted t", -1);
        test("doubted", 7);
        test("doubted not", 8);
        test("agreed e", -1);
        test("agreed", 6);
        test("agreed e f", 9);
        test("contradict s t", -1);
        test("contradict s s", -1);
        test("contradict", 10);
        test("contradict s", 12);
        test("contradict s,t", 12);
        test("contradict s t s", 15);
        test("not liar s", -1);
        test("not", 3);
        test("not and liar s", 4);
        test("not 1 = 1", -1);
        test("liar s and liar t", -1);
        test("liar s and", 10);
        test("and liar s", 0);
        test("liar s and or liar t", 11);
        test("liar s or liar t or liar s and liar t", -1);
        test("liar s or", 9);
        test("or", 0);
        test("[liar s]", -1);
        test("[[liar s] or liar t] and [liar s]", -1);
        test("[liar s", 7);
        test("[]", 1);
        test("[1]", 2);
        test("[liar s)", 7);
        test("liar s]", 6);
        test("(liar s)", 1);
        test("[1 = 1] = 1", 8);
        test("[1 + 1] = 2", 6);
        test("(1 = 1)", 3);
        test("1", 1);
        test("1 = 1 = 1", 6);
        test("1 < 2 <= 3", 6);
        test("1 = not liar s", 4);
        test("1 = [1]", 4);
        test("e = 1", 0);
        test("s", 0);
        test(";", 0);
    }

    private static void sums() {
        test("1 + 2 - 3 * 4 / 5 = evening - liars + conflicts", -1);
        test("1 +", 3);
        test("1 + = 2", 4);
        test("1 + + 2 = 3", 4);
        test("+ 1 = 1", 0);
        test("1 - - 1 = 2", -1);
        test("1 * - 1 = - 1", -1);
        test("1 - * 1 = 0", 4);
        test("* 1 = 1", 0);
        test("1 1 = 1", 2);
        test("(1) = 1", -1);
        test("(1 + 2) * 3 = 9", -1);
        test("() = 1", 1);
        test("(1 = 1", 3);
        test("(1] = 1", 2);
        test("(1, 2) = 1", 2);
        test("1) = 1", 1);
        test("(1)(2) = 1", 3);
        test("claims of s = 1", -1);
        test("claims s = 1", 7);
        test("claims of = 1", 10);
        test("claims of 1 = 1", 10);
        test("window of e = 1", -1);
        test("window e = 1", 7);
        test("window of", 9);
        test("of s = 1", 0);
        test("min(1, 2) = max(1 + 1, 2 * 1)", -1);
        test("min = 1", 4);
        test("min 1, 2 = 1", 4);
        test("min[1, 2] = 1", 3);
        test("min() = 1", 4);
        test("min(1) = 1", 5);
        test("min(1,) = 1", 6);
        test("min(1, 2, 3) = 1", 8);
        test("max(1; 2) = 1", 5);
        test("max(1, 2", 8);
        test("max(liar s, 2) = 1", 4);
        test("at = 1", 0);
        test("when = 1", 0);
    }

    private static void depth() {
        test(times(8, "(") + "1" + times(8, ")") + "=1", -1);
        test(times(9, "(") + "1" + times(9, ")") + "=1", 8);
        test(times(8, "-") + "1=1", -1);
        test(times(9, "-") + "1=1", 8);
        test("1=" + times(9, "-") + "1", 10);
        test(times(8, "not ") + "liar s", -1);
        test(times(9, "not ") + "liar s", 32);
        test(times(8, "[") + "liar s" + times(8, "]"), -1);
        test(times(9, "[") + "liar s" + times(9, "]"), 8);
        test("[not [not (-(min(1,1)))=1]]", -1);
        test("[not [not (-(min(1,-1)))=1]]", 19);
        test("[not [not (-(min(1,(1))))=1]]", 19);
        test("[not [not (-(min(1,min(1,1))))=1]]", 22);
        test("[not [not (-min(-1,(1)))=-(-(-1))]]", 29);
        test("[not [not (-min(-1,(1)))=-(-(1))]]", -1);
        test(times(8, "min(1,") + "1" + times(8, ")") + "=1", -1);
        test(times(9, "max(1,") + "1" + times(9, ")") + "=1", 8 * 6 + 3);
        test("[" + times(8, "not ") + "liar s]", 29);
        test("[" + times(7, "not ") + "[liar s]]", 29);
        test(times(20, "(1)+") + "1=1", -1);
        test(times(20, "[1=1] and not ") + "-1=-1 and -(1)=-(1)", -1);
        test("1" + times(20, "-1") + "=1", -1);
        test(times(20, "-1-") + "1=-1", -1);
        test(times(8, "(") + "1" + times(8, ")") + "=" + times(8, "-") + "1 and " + times(8, "[") + "liar s" + times(8, "]")
                + " or " + times(8, "not ") + "liar t", -1);
        test(times(7, "-") + "(1)=1 or " + times(8, "-") + "(1)=1", 7 + 9 + 8);
        test(times(7, "-") + "(-1)=1", 8);
        test(times(7, "-") + "(1-1)*(2)=1", -1);
        Check.works(HEAD + times(16, "doubt s when " + times(8, "not ") + "liar s;"));
    }

    /** An order that fills the tape up to so many tokens, behind the 3 of the teller. */
    private static String tokens(int count) {
        String start = count % 2 == 0 ? "teller s;doubt s when 1=1" : "teller s;doubt s when -1=1";
        int sum = (count - (count % 2 == 0 ? 10 : 11)) / 2;
        return start + times(sum, "+1") + ";";
    }

    private static void tokenLimit() {
        Check.works(tokens(399));
        Check.works(tokens(400));
        Check.works(tokens(400) + "   \n ");
        Check.fails(tokens(401), 1, tokens(401).length() - 1);
        Check.fails(tokens(402), 1, tokens(402).length() - 2);
        Check.fails(tokens(400) + "  event e;", 1, tokens(400).length() + 2);
        Check.fails(tokens(400) + " !", 1, tokens(400).length() + 1);
        Check.fails(tokens(397) + "event e;", 0, -1);
        Check.fails(tokens(398) + "event e;", 1, tokens(398).length() + 7);
        Check.fails(tokens(399) + "event !", 1, tokens(399).length() + 6);
        String open = tokens(401).substring(0, tokens(401).length() - 1);
        Check.fails(open, 1, open.length());
        Check.fails(open + "  ", 1, open.length() + 2);
        String twice = "teller s;" + tokens(398);
        Check.fails(twice, 1, twice.length() - 1);
        Check.fails("teller s;" + tokens(397), 2, 16);
        Check.fails(times(1000, "; "), 1, 0);
        Check.fails(times(950, "("), 1, 0);
    }

    private static void toldTwice() {
        Check.fails("event a; event a;", 2, 15);
        Check.fails("event a; event b; event c; event b;", 2, 33);
        Check.fails("teller a; teller a;", 2, 17);
        Check.works("event a; teller a; tells a a at 3; doubt a when agreed a and liar a;");
        Check.fails("event a; teller a; teller a;", 2, 26);
        Check.fails("event a; teller a; event a;", 2, 25);
        Check.fails("event a; event b; event c; event d; event e; event f; event g; event h; event a;", 2, 78);
        Check.fails("event a; event b; event c; event d; event e; event f; event g; event h; event i;", 4, 78);
    }

    private static void notTold() {
        Check.fails("event e; teller t; tells u e at 3;", 3, 25);
        Check.fails("event e; teller t; tells e e at 3;", 3, 25);
        Check.fails("event e; teller t; tells t t at 3;", 3, 27);
        Check.fails("event e; teller t; tells t e before t;", 3, 36);
        Check.fails("event e; teller t; tells t e with f;", 3, 34);
        Check.fails("event e; teller t; tells t f with f;", 3, 27);
        Check.fails("event e; teller t; tells u f with f;", 3, 25);
        Check.fails("event e; tells t e at 3; teller t;", 3, 15);
        Check.fails("teller t; tells t e at 3; event e;", 3, 18);
        Check.fails(HEAD + "doubt e;", 3, 46);
        Check.fails(HEAD + "believe u;", 3, 48);
        Check.fails(HEAD + "doubt s when liar e;", 3, 58);
        Check.fails(HEAD + "doubt s when doubted e;", 3, 61);
        Check.fails(HEAD + "doubt s when agreed s;", 3, 60);
        Check.fails(HEAD + "doubt s when contradict e s;", 3, 64);
        Check.fails(HEAD + "doubt s when contradict s e;", 3, 66);
        Check.fails(HEAD + "doubt s when claims of e = 1;", 3, 63);
        Check.fails(HEAD + "doubt s when window of s = 1;", 3, 63);
        Check.fails(HEAD + "doubt s when 1 = window of q;", 3, 67);
        Check.fails("doubt s; teller s;", 3, 6);
    }

    private static void tooMany() {
        StringBuilder tellers = new StringBuilder();
        for (int n = 0; n < 10; n++) {
            tellers.append("teller t").append(n).append(";");
        }
        Check.works(tellers.toString());
        Check.fails(tellers + "teller u;", 4, tellers.length() + 7);
        Check.fails(tellers + "teller t9;", 2, tellers.length() + 7);
        Check.works("event a; event b; event c; event d; event e; event f; event g; event h;");
        Check.works("event a; event b; event c; event d; event e; event f; event g; event h; teller h; teller i;");

        String claims = HEAD + times(20, "tells s e at 1;") + times(10, "tells s e with f;") + times(10, "tells t f before e;");
        Check.works(claims);
        Check.fails(claims + "tells s e at 1;", 4, claims.length());
        Check.fails(claims + "tells q e at 1;", 4, claims.length());
        Check.fails(claims + "tells s e at 100;", 4, claims.length());
        String fewer = HEAD + times(39, "tells s e at 1;");
        Check.fails(fewer + "tells q e at 1; tells s e at 1; tells s e at 1;", 3, fewer.length() + 6);

        String orders = HEAD + times(8, "doubt s;") + times(8, "believe t when liar t;");
        Check.works(orders);
        Check.fails(orders + "doubt s;", 4, orders.length());
        Check.fails(orders + "believe q;", 4, orders.length());
        Check.works(claims + times(16, "doubt t;"));
    }

    private static void outOfRange() {
        String tells = HEAD + "tells s e at ";
        Check.works(tells + "0 to 99;");
        Check.works(tells + "99 to 99;");
        Check.fails(tells + "100;", 5, 53);
        Check.fails(tells + "999999 to 3;", 5, 53);
        Check.fails(tells + "3 to 100;", 5, 58);
        Check.fails(tells + "3 to 2;", 5, 58);
        Check.works(tells + "3 to 3;");
        Check.fails(tells + "100 to 100;", 5, 53);
        Check.fails(HEAD + "tells s e before e;", 5, 57);
        Check.fails(HEAD + "tells s f with f;", 5, 55);
        Check.works(HEAD + "doubt s when 100 = 999999;");
    }

    private static void senseComesFirst() {
        Check.fails("event a; event a; event", 1, 23);
        Check.fails("tells q w at 100 to 3; !", 1, 23);
        Check.fails("doubt q when liar w and 1", 1, 25);
        Check.fails(times(3, "event a;") + "a", 1, 24);
    }

    private static void firstErrorCounts() {
        Check.fails("event a; tells t b at 100; event a;", 3, 15);
        Check.fails("event a; event a; tells t b at 100;", 2, 15);
        Check.fails("event a; teller t; tells t a at 100; tells u a at 1;", 5, 32);
        Check.fails("event a; teller t; tells t a at 9 to 3; doubt u;", 5, 37);
        Check.fails("event a; teller t; tells t b at 9 to 3; doubt u;", 3, 27);
        Check.fails("teller t; doubt t when liar u and 1 = window of v; teller t;", 3, 28);
    }
}
