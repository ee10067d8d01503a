/** Every token behind each beginning of a tapestry, and behind each such token again, beside the Oracle. */
public final class GrammarTest {
    private static final String[] TOKENS = ("event teller tells at to before with doubt believe when evening liars conflicts doubted"
            + " claims window of contradict liar agreed not and or min max ( ) [ ] ; , + - * / < > = <= >= a t u 7 100 1234567"
            + " abcdefghijk #").split(" ");
    private static final String TOLD = "event a; event b; teller t; teller u; tells t a at 7; tells u a at 9; ";
    private static final String WHEN = TOLD + "doubt t when ";
    private static final String[] BEGINNINGS = {
        "", TOLD, TOLD + "tells t ", TOLD + "tells t a at 7 ", WHEN, WHEN + "not ", WHEN + "[ ", WHEN + "( ", WHEN + "- ",
        TOLD + "believe u; doubt u when min ( ", WHEN + "max ( 7 , ", WHEN + "7 < ", WHEN + "liar u or ", WHEN + "agreed a and ",
        WHEN + "not ".repeat(7), WHEN + "[ ".repeat(7), WHEN + "( ".repeat(7), WHEN + "- ".repeat(7), WHEN + "min ( ".repeat(7),
        WHEN + "not ".repeat(8), WHEN + "[ ".repeat(8), WHEN + "( ".repeat(8), WHEN + "- ".repeat(8), WHEN + "max ( ".repeat(8),
        WHEN + "not [ not ( - max ( - ( ",
    };
    private static final int MOST_TOKENS = 3;
    private static final int MOST_CALLS = 512;

    private static StoryTapestry x;
    private static int calls = MOST_CALLS;

    public static void main(String[] args) {
        for (String beginning : BEGINNINGS) {
            goOn(beginning, MOST_TOKENS);
        }
        minAtTheGreatestDepth();
        Check.end();
    }

    private static void goOn(String text, int more) {
        for (String token : TOKENS) {
            Oracle due = new Oracle();
            int error = due.teach(text + token);
            teach(text + token, due, error);
            boolean goesOn = error != 1 || due.errorAt == text.length() + token.length();
            if (goesOn && more > 1) {
                goOn(text + token + " ", more - 1);
            }
        }
    }

    private static void teach(String text, Oracle due, int error) {
        int needed = (text.length() + 19) / 20 + 10;
        if (calls + needed > MOST_CALLS) {
            x = new StoryTapestry();
            calls = 0;
        }
        calls += needed;
        Check.same("teach() of " + text, Check.teach(x, text), error);
        Check.same("errorAt() of " + text, x.errorAt(), due.errorAt);
        if (error == 0) {
            due.passEvening();
            Check.same("passEvenings(1) of " + text, x.passEvenings(1), due.carriedOut);
            for (int teller = 0; teller < due.tellers.size() && teller < 2; teller++) {
                Check.same("isDoubted(" + teller + ") of " + text, x.isDoubted(teller), due.doubted.contains(teller));
            }
        }
    }

    /** "the (, [..] behind which the depth would be 9": a min at the depth 8 is read, the ( behind it is the error. */
    private static void minAtTheGreatestDepth() {
        for (String min : new String[] {"min", "max"}) {
            String deep = WHEN + "(".repeat(8);
            Check.fails(deep + min, 1, deep.length() + 3);
            Check.fails(deep + min + " (1, 2)", 1, deep.length() + 4);
            Check.fails(deep + min + " 1", 1, deep.length() + 4);
        }
    }
}
