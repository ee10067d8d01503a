/** Promises 18 to 25: tellers, who contradicts whom, and the liars. */
public final class TellersTest {
    private static final int[] NO_TELLER = {-1, 4, 10, 31, 32, Integer.MAX_VALUE, Integer.MIN_VALUE};

    public static void main(String[] args) {
        claimsOfTellers();
        contradictions();
        contraryPairs();
        doubtedTellersDoNotCount();
        noLiars();
        oneHasToBe();
        contraryTellersHaveToBe();
        theFirstIsSparedWhereItCanBe();
        liarsOfAChain();
        manySmallestSets();
        setsBehindEveryChange();
        tellersAreRefused();
        Check.end();
    }

    private static StoryTapestry four(String text) {
        return Check.taught("event a; event b; teller q; teller r; teller s; teller t;" + text);
    }

    /** A tapestry of tellers t0 to t9 in which two contradict each other for each two digits. */
    private static StoryTapestry pairs(int tellers, String digits) {
        StoryTapestry x = new StoryTapestry();
        StringBuilder text = new StringBuilder("event a; event b; event c; event d; event e; event f; event g; event h;");
        for (int n = 0; n < tellers; n++) {
            text.append("teller t").append(n).append(";");
        }
        String[] parts = digits.isEmpty() ? new String[0] : digits.split(" ");
        for (int n = 0; n < parts.length; n++) {
            String first = "" + (char) ('a' + n / 7);
            String second = "" + (char) ('a' + (n / 7 + 1 + n % 7) % 8);
            if (n / 7 >= (n / 7 + 1 + n % 7) % 8) {
                throw new IllegalArgumentException("more pairs than two events");
            }
            text.append("tells t").append(parts[n].charAt(0)).append(" ").append(first).append(" before ").append(second).append(";");
            text.append("tells t").append(parts[n].charAt(1)).append(" ").append(second).append(" before ").append(first).append(";");
        }
        Check.same("teach() of " + digits, Check.teach(x, text.toString()), 0);
        return x;
    }

    private static void liars(String what, StoryTapestry x, String liars, int sets) {
        StringBuilder seen = new StringBuilder();
        for (int teller = 0; teller < x.tellers(); teller++) {
            if (x.isLiar(teller)) {
                seen.append(teller);
            }
        }
        Check.same("the liars of " + what, seen.toString(), liars);
        Check.same("liars() of " + what, x.liars(), liars.length());
        Check.same("smallestSets() of " + what, x.smallestSets(), sets);
    }

    private static void claimsOfTellers() {
        StoryTapestry x = four("tells q a at 1; tells s a at 1; tells q b with a; tells q a before b; tells t a at 3;");
        int[] due = {3, 0, 1, 1};
        for (int teller = 0; teller < 4; teller++) {
            Check.same("claimsOf(" + teller + ")", x.claimsOf(teller), due[teller]);
        }
        x.turnDoubt(0);
        Check.same("claimsOf(0) of a doubted teller", x.claimsOf(0), 3);
    }

    private static void contradictions() {
        StoryTapestry x = four("tells q a at 1 to 5; tells r a at 6; tells s a at 5 to 6; tells t b before a; tells r a with b;"
                + "tells q a at 2; tells s a at 7;");
        boolean[][] due = {
            {false, true, true, false}, {true, false, true, true}, {true, true, true, false}, {false, true, false, false}};
        for (int a = 0; a < 4; a++) {
            for (int b = 0; b < 4; b++) {
                Check.same("doContradict(" + a + ", " + b + ")", x.doContradict(a, b), due[a][b]);
            }
        }
        Check.same("contradictions()", x.contradictions(), 4);
        Check.same("contradictions() of pairs", pairs(10, "01 01 12 98 90 09").contradictions(), 4);
        Check.same("contradictions() of one who is contrary", pairs(2, "11").contradictions(), 0);
        Check.yes("doContradict(1, 1) of one who is contrary", pairs(2, "11").doContradict(1, 1));
        Check.yes("doContradict(9, 9)", pairs(10, "99").doContradict(9, 9));
    }

    private static void contraryPairs() {
        StoryTapestry x = four("tells q a at 1; tells q a at 2; tells q a at 3; tells r a at 3 to 4; tells r a at 4;"
                + "tells s a before b; tells s b with a; tells s b before a;");
        int[][] due = {{3, 5, 0, 0}, {5, 0, 0, 0}, {0, 0, 3, 0}, {0, 0, 0, 0}};
        for (int round = 0; round < 2; round++) {
            for (int a = 0; a < 4; a++) {
                for (int b = 0; b < 4; b++) {
                    Check.same("contraryPairs(" + a + ", " + b + ") in round " + round, x.contraryPairs(a, b), due[a][b]);
                }
            }
            x.turnDoubt(0);
            x.turnDoubt(2);
        }
    }

    private static void doubtedTellersDoNotCount() {
        StoryTapestry x = pairs(5, "01 12 23 33 40");
        Check.no("isDoubted(1)", x.isDoubted(1));
        x.turnDoubt(1);
        Check.yes("isDoubted(1) behind turnDoubt", x.isDoubted(1));
        Check.no("isDoubted(0) behind turnDoubt", x.isDoubted(0));
        Check.no("isDoubted(2) behind turnDoubt", x.isDoubted(2));
        Check.no("doContradict(0, 1) of one doubted", x.doContradict(0, 1));
        Check.no("doContradict(1, 2) of one doubted", x.doContradict(1, 2));
        Check.yes("doContradict(2, 3)", x.doContradict(2, 3));
        Check.same("contradictions()", x.contradictions(), 2);
        Check.no("isLiar(1) who is doubted", x.isLiar(1));
        x.turnDoubt(3);
        Check.no("doContradict(3, 3) of one doubted", x.doContradict(3, 3));
        Check.same("contradictions() behind two", x.contradictions(), 1);
        liars("two doubted", x, "4", 2);
        x.turnDoubt(4);
        liars("three doubted", x, "", 1);
        x.turnDoubt(1);
        liars("one believed again", x, "1", 1);
    }

    private static void noLiars() {
        liars("no contradictions", pairs(10, ""), "", 1);
        liars("no tellers", Check.taught("event e;"), "", 1);
        liars("claims that agree", four("tells q a at 3 to 9; tells r a at 4 to 5; tells s a before b;"), "", 1);
        StoryTapestry x = pairs(3, "01 12 22");
        x.turnDoubt(0);
        x.turnDoubt(1);
        x.turnDoubt(2);
        liars("only doubted tellers", x, "", 1);
    }

    private static void oneHasToBe() {
        liars("01", pairs(2, "01"), "1", 2);
        liars("10", pairs(2, "10"), "1", 2);
        liars("a star around 3", pairs(8, "30 31 32 34 57"), "37", 2);
        liars("a star around 9", pairs(10, "90 91 92 93 94"), "9", 1);
        liars("a star around 0", pairs(10, "01 02 03"), "0", 1);
        liars("01 23", pairs(4, "01 23"), "13", 4);
        liars("89", pairs(10, "89"), "9", 2);
    }

    private static void contraryTellersHaveToBe() {
        liars("00", pairs(2, "00"), "0", 1);
        liars("00 01", pairs(2, "00 01"), "0", 1);
        liars("11 01 12", pairs(3, "11 01 12"), "1", 1);
        liars("00 12", pairs(3, "00 12"), "02", 2);
        liars("all contrary", pairs(3, "00 11 22 01"), "012", 1);
        liars("99", pairs(10, "99"), "9", 1);
    }

    private static void theFirstIsSparedWhereItCanBe() {
        liars("a triangle", pairs(3, "01 12 02"), "12", 3);
        liars("a square", pairs(4, "01 12 23 30"), "13", 2);
        liars("a square turned", pairs(4, "02 21 13 30"), "23", 2);
        liars("five in a ring", pairs(5, "01 12 23 34 40"), "134", 5);
        liars("03 12", pairs(4, "03 12"), "23", 4);
        liars("two stars", pairs(6, "01 02 34 35"), "03", 1);
        liars("a path whose ends are 0 and 3", pairs(4, "01 12 23"), "13", 3);
        liars("a path 1 0 2 3", pairs(4, "10 02 23"), "12", 3);
    }

    private static void liarsOfAChain() {
        liars("a path of 10", pairs(10, "01 12 23 34 45 56 67"), "1357", 5);
        liars("a path of 9 turned", pairs(9, "87 76 65 54 43 32 21"), "246" + "8", 5);
    }

    private static void manySmallestSets() {
        liars("three pairs", pairs(10, "01 23 45"), "135", 8);
        StoryTapestry all = Check.taught("event a;" + tellers(10) + hours(10));
        liars("ten who all contradict each other", all, "123456789", 10);
        Check.same("contradictions() of all", all.contradictions(), 45);
        StringBuilder text = new StringBuilder("event a; event b; event c; event d; event e;" + tellers(10));
        for (int n = 0; n < 5; n++) {
            text.append("tells t").append(n).append(" ").append((char) ('a' + n)).append(" at 1;");
            text.append("tells t").append(9 - n).append(" ").append((char) ('a' + n)).append(" at 2;");
        }
        liars("five pairs", Check.taught(text.toString()), "56789", 32);
    }

    private static void setsBehindEveryChange() {
        StoryTapestry x = pairs(4, "01 23");
        Check.same("smallestSets() at first", x.smallestSets(), 4);
        x.turnDoubt(0);
        Check.same("smallestSets() behind a doubt", x.smallestSets(), 2);
        x.takeBack(3);
        Check.same("smallestSets() behind a claim less", x.smallestSets(), 1);
        x.turnDoubt(0);
        Check.same("smallestSets() behind a belief", x.smallestSets(), 2);
        x.claimHours(1, 0, 1, 1);
        x.claimHours(2, 0, 2, 2);
        Check.same("smallestSets() behind claims more", x.smallestSets(), 1);
        Check.yes("isLiar(1) behind claims more", x.isLiar(1));
        Check.teach(x, "");
        Check.same("smallestSets() behind teach()", x.smallestSets(), 1);
        StoryTapestry y = Check.taught("event e; teller s; teller t; teller u; tells s e at 1; tells t e at 2; tells u e at 3; doubt u;");
        Check.same("smallestSets() ahead of an evening", y.smallestSets(), 3);
        y.passEvenings(1);
        Check.same("smallestSets() behind an evening", y.smallestSets(), 2);
    }

    private static String tellers(int count) {
        StringBuilder text = new StringBuilder();
        for (int n = 0; n < count; n++) {
            text.append("teller t").append(n).append(";");
        }
        return text.toString();
    }

    private static String hours(int count) {
        StringBuilder text = new StringBuilder();
        for (int n = 0; n < count; n++) {
            text.append("tells t").append(n).append(" a at ").append(n).append(";");
        }
        return text.toString();
    }

    private static void tellersAreRefused() {
        StoryTapestry x = four("tells q a at 1; tells t a at 2;");
        for (int teller : NO_TELLER) {
            Check.refused(x, "claimsOf(" + teller + ")", Check.INDEX, () -> x.claimsOf(teller));
            Check.refused(x, "isDoubted(" + teller + ")", Check.INDEX, () -> x.isDoubted(teller));
            Check.refused(x, "doContradict(0, " + teller + ")", Check.INDEX, () -> x.doContradict(0, teller));
            Check.refused(x, "doContradict(" + teller + ", 0)", Check.INDEX, () -> x.doContradict(teller, 0));
            Check.refused(x, "doContradict twice " + teller, Check.INDEX, () -> x.doContradict(teller, teller));
            Check.refused(x, "contraryPairs(3, " + teller + ")", Check.INDEX, () -> x.contraryPairs(3, teller));
            Check.refused(x, "contraryPairs(" + teller + ", 3)", Check.INDEX, () -> x.contraryPairs(teller, 3));
            Check.refused(x, "contraryPairs twice " + teller, Check.INDEX, () -> x.contraryPairs(teller, teller));
            Check.refused(x, "isLiar(" + teller + ")", Check.INDEX, () -> x.isLiar(teller));
        }
    }
}
