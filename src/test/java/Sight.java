/**
 * All that an object answers, as one text: of two objects with the same text, no call tells which
 * is which. It takes some 400 calls and leaves the object without pairs and ends.
 */
final class Sight {
    private static final int[] FORMS = {1, 12, 213};

    private final RankedGrammar grammar;
    private final StringBuilder text = new StringBuilder();

    private Sight(RankedGrammar grammar) {
        this.grammar = grammar;
    }

    static String of(RankedGrammar grammar) {
        Sight sight = new Sight(grammar);
        sight.lookAtDemands();
        sight.lookAtWinners();
        sight.lookAtPairs();
        sight.useUp();
        return sight.text.toString();
    }

    private void lookAtDemands() {
        see("demands", grammar::demands);
        for (int i = 0; i < grammar.demands(); i++) {
            int demand = i;
            see("rank", () -> grammar.rankOf(demand));
            for (int form : FORMS) {
                for (int candidate : candidatesOf(form)) {
                    see("", () -> grammar.breaches(demand, form, candidate));
                }
            }
        }
    }

    private void lookAtWinners() {
        for (int form : FORMS) {
            see("winners of " + form, () -> grammar.winners(form));
            see("the first", () -> grammar.winnerAt(form, 0));
            see("the second", () -> grammar.winnerAt(form, 1));
        }
    }

    private void lookAtPairs() {
        see("pairs", grammar::pairs);
        see("isLearnable", grammar::isLearnable);
        see("unexplained", grammar::unexplained);
        see("tongues", grammar::tongues);
    }

    private void useUp() {
        for (int i = grammar.pairs(); i > 0; i--) {
            see("learn", grammar::learn);
            see("withdraw", () -> grammar.withdraw(0));
            lookAtPairs();
        }
        for (int i = 0; i < grammar.demands(); i++) {
            int demand = i;
            see("learned", () -> grammar.rankOf(demand));
            for (int j = 0; j < 4; j++) {
                int state = j;
                see("end", () -> grammar.setEnd(demand, state, 0));
            }
        }
    }

    private void see(String what, Due.Call call) {
        text.append(' ').append(what).append(' ').append(Due.outcome(call));
    }

    /** The words with as many digits as this one. */
    static int[] candidatesOf(int form) {
        int[] words = {0};
        for (int rest = form; rest > 0; rest /= 10) {
            int[] longer = new int[3 * words.length];
            for (int i = 0; i < longer.length; i++) {
                longer[i] = words[i / 3] * 10 + i % 3 + 1;
            }
            words = longer;
        }
        return words;
    }
}
