/**
 * What an object answers, as one text: of two objects in the same state the texts are the same. The digest stands for the
 * counts, the claims' tellers, kinds and first events, who contradicts whom, the windows and the order.
 */
final class Answers {
    private Answers() {
    }

    static String of(StoryTapestry x) {
        StringBuilder text = new StringBuilder();
        text.append("digest ").append(x.digest()).append(" error at ").append(x.errorAt());
        text.append(" evenings ").append(x.evenings()).append(" carried out ").append(x.ordersCarriedOut());
        text.append(" mean ").append(x.meanClaims()).append(" best ").append(x.bestToDoubt());
        text.append(" until ").append(x.eveningsUntilOneStory());
        text.append(" after 1 ").append(x.liarsAfter(1)).append(" after 30 ").append(x.liarsAfter(30));
        claims(x, text);
        tellers(x, text);
        return text.toString();
    }

    private static void claims(StoryTapestry x, StringBuilder text) {
        int claims = x.claims();
        for (int n = 0; n < claims; n++) {
            int kind = x.kindOf(n);
            text.append(" claim ").append(n).append(" of the kind ").append(kind).append(": ");
            if (kind == 0) {
                text.append(x.firstHourOf(n)).append(" to ").append(x.lastHourOf(n));
            } else {
                text.append(x.secondEventOf(n));
            }
        }
    }

    private static void tellers(StoryTapestry x, StringBuilder text) {
        int tellers = x.tellers();
        for (int a = 0; a < tellers; a++) {
            text.append(" teller ").append(a).append(x.isDoubted(a) ? " doubted" : x.isLiar(a) ? " liar" : " truthful");
            for (int b = a; b < tellers; b++) {
                text.append(' ').append(x.contraryPairs(a, b));
            }
        }
    }

    /** Both answer the same. */
    static void same(String what, StoryTapestry got, StoryTapestry due) {
        Check.same(what, of(got), of(due));
    }
}
