/**
 * Each throws clause of each call, and each two of one call that apply at once: which exception is
 * thrown, and that the object is afterwards as it was.
 */
public final class RefusalsTest {
    private static final int LEAST = Integer.MIN_VALUE;
    private static final int MOST = Integer.MAX_VALUE;
    private static final String BOUND = "throws.IndexOutOfBoundsException";
    private static final String ARGUMENT = "throws.IllegalArgumentException";
    private static final String STATE = "throws.IllegalStateException";

    /** A call on a grammar. */
    private interface Use {
        Object of(RankedGrammar grammar);
    }

    private final Due due = new Due();
    private Grammars.Build build;
    private String before;

    public static void main(String[] args) {
        RefusalsTest test = new RefusalsTest();
        test.onEmpty();
        test.onOrdinary();
        test.onFull();
        test.due.end("RefusalsTest");
    }

    // ---- the grammars

    /** Demands: 0 an automaton with 2 states, 1 a keeper. Pairs: 12 to 12, 3 to 2. */
    private static RankedGrammar ordinary() {
        RankedGrammar grammar = new RankedGrammar();
        grammar.addAutomaton(2);
        grammar.setArrow(0, 0, 1, 1, 2);
        grammar.setArrow(0, 1, 3, 1, 3);
        grammar.setEnd(0, 0, 1);
        grammar.setEnd(0, 1, 3);
        grammar.addKeeper(2);
        grammar.setRank(1, 4);
        grammar.teach(12, 12);
        grammar.teach(3, 2);
        return grammar;
    }

    /** Six demands, of which 1 and 3 are keepers, and ten pairs. */
    private static RankedGrammar full() {
        RankedGrammar grammar = new RankedGrammar();
        grammar.addAutomaton(4);
        grammar.addKeeper(0);
        Grammars.avoid(grammar, 1);
        grammar.addKeeper(2);
        grammar.addAutomaton(2);
        grammar.addAutomaton(3);
        int[][] arrows = {
            {0, 0, 1, 1, 0}, {0, 0, 2, 2, 1}, {0, 0, 3, 3, 0}, {0, 1, 1, 1, 2}, {0, 2, 2, 3, 1},
            {0, 3, 1, 2, 3}, {4, 0, 1, 1, 0}, {4, 1, 1, 1, 1}, {5, 0, 3, 1, 0}, {5, 1, 2, 2, 2},
        };
        for (int[] row : arrows) {
            grammar.setArrow(row[0], row[1], row[2], row[3], row[4]);
        }
        for (int state = 0; state < 4; state++) {
            grammar.setEnd(0, state, 3 - state);
        }
        grammar.setEnd(5, 2, 2);
        int[] ranks = {5, 0, 3, 3, 1, 2};
        for (int demand = 0; demand < 6; demand++) {
            grammar.setRank(demand, ranks[demand]);
        }
        int[][] taught = {
            {1, 1}, {12, 12}, {2, 3}, {123, 123}, {3, 3}, {31, 31}, {22, 23}, {1, 2}, {333, 133},
            {13, 31},
        };
        for (int[] row : taught) {
            grammar.teach(row[0], row[1]);
        }
        return grammar;
    }

    // ---- what the tests ask

    private void on(Grammars.Build made) {
        build = made;
        before = Sight.of(made.make());
    }

    private void refuses(String exception, String what, Use use) {
        RankedGrammar grammar = build.make();
        due.answers(what, exception, () -> use.of(grammar));
        due.answers(what + " changes nothing", true, () -> before.equals(Sight.of(grammar)));
    }

    private void asks(String what, Object answer, Use use) {
        RankedGrammar grammar = build.make();
        due.answers(what, answer, () -> use.of(grammar));
        due.answers("asking " + what + " changes nothing", true,
                () -> before.equals(Sight.of(grammar)));
    }

    private static String call(String what, int... arguments) {
        StringBuilder text = new StringBuilder(what);
        for (int argument : arguments) {
            text.append(' ').append(argument);
        }
        return text.toString();
    }

    private void refusesAutomaton(String exception, int states) {
        refuses(exception, call("addAutomaton", states), g -> g.addAutomaton(states));
    }

    private void refusesKeeper(String exception, int letter) {
        refuses(exception, call("addKeeper", letter), g -> g.addKeeper(letter));
    }

    private void refusesArrow(String exception, int demand, int state, int letter, int to,
            int breaches) {
        refuses(exception, call("setArrow", demand, state, letter, to, breaches),
                g -> Grammars.arrow(g, demand, state, letter, to, breaches));
    }

    private void refusesEnd(String exception, int demand, int state, int breaches) {
        refuses(exception, call("setEnd", demand, state, breaches),
                g -> g.setEnd(demand, state, breaches));
    }

    private void refusesRank(String exception, int demand, int rank) {
        refuses(exception, call("setRank", demand, rank), g -> g.setRank(demand, rank));
    }

    private void refusesBreaches(String exception, int demand, int form, int candidate) {
        refuses(exception, call("breaches", demand, form, candidate),
                g -> g.breaches(demand, form, candidate));
    }

    private void refusesPlace(String exception, int form, int place) {
        refuses(exception, call("winnerAt", form, place), g -> g.winnerAt(form, place));
    }

    private void refusesTeach(String exception, int form, int winner) {
        refuses(exception, call("teach", form, winner), g -> g.teach(form, winner));
    }

    private void refusesWithdraw(int pair) {
        refuses(BOUND, call("withdraw", pair), g -> g.withdraw(pair));
    }

    // ---- an object without demands and pairs

    private void onEmpty() {
        on(RankedGrammar::new);
        due.sentence("An IndexOutOfBoundsException is thrown if there is no such demand");
        for (int demand : new int[] {LEAST, -1, 0, 1, 5, 6, MOST}) {
            refusesArrow(BOUND, demand, 0, 1, 0, 0);
            refusesEnd(BOUND, demand, 0, 0);
            refusesRank(BOUND, demand, 0);
            refuses(BOUND, call("rankOf", demand), g -> g.rankOf(demand));
            refusesBreaches(BOUND, demand, 1, 1);
        }
        due.sentence("no such pair");
        for (int pair : new int[] {LEAST, -1, 0, 1, 9, 10, MOST}) {
            refusesWithdraw(pair);
        }
        due.sentence("if states is out of range");
        refusesAutomaton(ARGUMENT, 0);
        refusesAutomaton(ARGUMENT, 5);
        due.sentence("if letter is out of range");
        refusesKeeper(ARGUMENT, -1);
        refusesKeeper(ARGUMENT, 4);
        refuseWords();
    }

    // ---- an object with two demands and two pairs

    private void onOrdinary() {
        on(RefusalsTest::ordinary);
        addingIsRefused();
        arrowsAreRefused();
        arrowsOfKeepersAreRefused();
        endsAreRefused();
        ranksAreRefused();
        breachesAreRefused();
        refuseWords();
        placesAreRefused();
        pairsAreRefused();
        askingChangesNothing();
    }

    private void addingIsRefused() {
        due.sentence("if states is out of range");
        for (int states : new int[] {LEAST, -1, 0, 5, MOST}) {
            refusesAutomaton(ARGUMENT, states);
        }
        due.sentence("if letter is out of range");
        for (int letter : new int[] {LEAST, -1, 4, MOST}) {
            refusesKeeper(ARGUMENT, letter);
        }
    }

    private void arrowsAreRefused() {
        due.sentence("if there is no such demand, or it is an automaton without such a state, or "
                + "to which to is no state");
        for (int wrong : new int[] {LEAST, -1, 2, MOST}) {
            refusesArrow(BOUND, wrong, 0, 1, 0, 0);
            refusesArrow(BOUND, 0, wrong, 1, 0, 0);
            refusesArrow(BOUND, 0, 0, 1, wrong, 0);
        }
        due.sentence("if letter or breaches is out of range");
        for (int letter : new int[] {LEAST, -1, 0, 4, MOST}) {
            refusesArrow(ARGUMENT, 0, 0, letter, 0, 0);
        }
        for (int breaches : new int[] {LEAST, -1, 4, MOST}) {
            refusesArrow(ARGUMENT, 0, 0, 1, 0, breaches);
        }
        due.sentence("the one that is listed first is thrown");
        refusesArrow(BOUND, 2, 0, 0, 0, 0);
        refusesArrow(BOUND, 2, 0, 1, 0, 4);
        refusesArrow(BOUND, -1, 2, 4, 2, -1);
        refusesArrow(BOUND, 0, 2, 4, 0, 0);
        refusesArrow(BOUND, 0, -1, 1, 0, 4);
        refusesArrow(BOUND, 0, 0, 0, 2, 0);
        refusesArrow(BOUND, 0, 0, 1, -1, -1);
        refusesArrow(ARGUMENT, 0, 1, 4, 1, 4);
    }

    private void arrowsOfKeepersAreRefused() {
        due.sentence("if the demand is a keeper");
        refusesArrow(STATE, 1, 0, 1, 0, 0);
        refusesArrow(STATE, 1, 3, 3, 3, 3);
        due.sentence("only an automaton is without such a state");
        for (int state : new int[] {LEAST, -1, 4, MOST}) {
            refusesArrow(STATE, 1, state, 1, 0, 0);
            refusesArrow(STATE, 1, 0, 1, state, 0);
        }
        due.sentence("the one that is listed first is thrown");
        refusesArrow(ARGUMENT, 1, 0, 0, 0, 0);
        refusesArrow(ARGUMENT, 1, 0, 4, 0, 0);
        refusesArrow(ARGUMENT, 1, 0, 1, 0, -1);
        refusesArrow(ARGUMENT, 1, 0, 1, 0, 4);
        refusesArrow(ARGUMENT, 1, 4, 4, 4, 4);
    }

    private void endsAreRefused() {
        due.sentence("if there is no such demand, or it is an automaton without such a state");
        for (int wrong : new int[] {LEAST, -1, 2, MOST}) {
            refusesEnd(BOUND, wrong, 0, 0);
            refusesEnd(BOUND, 0, wrong, 0);
        }
        due.sentence("if breaches is out of range");
        for (int breaches : new int[] {LEAST, -1, 4, MOST}) {
            refusesEnd(ARGUMENT, 0, 0, breaches);
            refusesEnd(ARGUMENT, 0, 1, breaches);
        }
        due.sentence("if the demand is a keeper");
        refusesEnd(STATE, 1, 0, 0);
        refusesEnd(STATE, 1, 0, 3);
        due.sentence("only an automaton is without such a state");
        for (int state : new int[] {LEAST, -1, 4, MOST}) {
            refusesEnd(STATE, 1, state, 0);
        }
        due.sentence("the one that is listed first is thrown");
        refusesEnd(BOUND, 2, 0, 4);
        refusesEnd(BOUND, -1, 2, -1);
        refusesEnd(BOUND, 0, 2, 4);
        refusesEnd(BOUND, 0, -1, -1);
        refusesEnd(ARGUMENT, 1, 0, -1);
        refusesEnd(ARGUMENT, 1, 0, 4);
        refusesEnd(ARGUMENT, 1, 4, 4);
    }

    private void ranksAreRefused() {
        due.sentence("if there is no such demand");
        for (int demand : new int[] {LEAST, -1, 2, MOST}) {
            refusesRank(BOUND, demand, 0);
            refuses(BOUND, call("rankOf", demand), g -> g.rankOf(demand));
        }
        due.sentence("if rank is out of range");
        for (int rank : new int[] {LEAST, -1, 6, MOST}) {
            refusesRank(ARGUMENT, 0, rank);
            refusesRank(ARGUMENT, 1, rank);
        }
        due.sentence("the one that is listed first is thrown");
        refusesRank(BOUND, 2, 6);
        refusesRank(BOUND, -1, -1);
    }

    private void breachesAreRefused() {
        due.sentence("if there is no such demand");
        for (int demand : new int[] {LEAST, -1, 2, MOST}) {
            refusesBreaches(BOUND, demand, 12, 21);
        }
        due.sentence("the one that is listed first is thrown");
        refusesBreaches(BOUND, 2, 4, 1);
        refusesBreaches(BOUND, 2, 1, 4);
        refusesBreaches(BOUND, -1, 1, 11);
        refusesBreaches(BOUND, -1, 0, 0);
    }

    private void placesAreRefused() {
        due.sentence("if place is below 0 (whatever the form is)");
        for (int form : new int[] {1, 12, 33333, LEAST, -1, 0, 4, 10, 111111, MOST}) {
            refusesPlace(BOUND, form, -1);
            refusesPlace(BOUND, form, LEAST);
        }
        due.sentence("or the form is a word that does not have so many winners");
        int winners = ordinary().winners(12);
        for (int place : new int[] {winners, winners + 1, 9, 243, MOST}) {
            refusesPlace(BOUND, 12, place);
        }
        due.sentence("if form is no word");
        for (int form : new int[] {LEAST, -1, 0, 4, 10, 111111, MOST}) {
            refusesPlace(ARGUMENT, form, 0);
            refusesPlace(ARGUMENT, form, 243);
            refusesPlace(ARGUMENT, form, MOST);
        }
    }

    private void pairsAreRefused() {
        due.sentence("if there is no such pair");
        for (int pair : new int[] {LEAST, -1, 2, 9, 10, MOST}) {
            refusesWithdraw(pair);
        }
        due.sentence("if form is no word, or winner is none of its candidates");
        refusesTeach(ARGUMENT, 0, 1);
        refusesTeach(ARGUMENT, 4, 1);
        refusesTeach(ARGUMENT, 111111, 111111);
        refusesTeach(ARGUMENT, 1, 4);
        refusesTeach(ARGUMENT, 11, 1);
        refusesTeach(ARGUMENT, 11, 111);
    }

    private void askingChangesNothing() {
        due.sentence("nothing but what is said changes");
        asks("demands", 2, RankedGrammar::demands);
        asks("rankOf", 4, g -> g.rankOf(1));
        asks("breaches", 8, g -> g.breaches(0, 11, 13));
        asks("candidates", 243, g -> g.candidates(33333));
        asks("winners", 4, g -> g.winners(11));
        asks("winnerAt", 22, g -> g.winnerAt(22, 0));
        asks("isWinner", false, g -> g.isWinner(33, 11));
        asks("canWin", true, g -> g.canWin(22, 22));
        asks("pairs", 2, RankedGrammar::pairs);
        asks("isLearnable", false, RankedGrammar::isLearnable);
        asks("learn", RankedGrammar.NONE, RankedGrammar::learn);
        asks("tongues", 1, RankedGrammar::tongues);
        int left = ordinary().unexplained();
        asks("unexplained", left, RankedGrammar::unexplained);
    }

    /** The calls that take words, whatever the demands and pairs are. */
    private void refuseWords() {
        due.sentence("if form is no word, or candidate is none of its candidates");
        boolean some = build.make().demands() > 0;
        for (int wrong : new int[] {LEAST, -1, 0, 4, 10, 14, 41, 11411, 111111, 333333, MOST}) {
            refuses(ARGUMENT, call("candidates", wrong), g -> g.candidates(wrong));
            refuses(ARGUMENT, call("winners", wrong), g -> g.winners(wrong));
            refuses(ARGUMENT, call("winnerAt", wrong), g -> g.winnerAt(wrong, 0));
            for (int right : new int[] {1, 11, 33333}) {
                refusePairOfWords(some, wrong, right);
                refusePairOfWords(some, right, wrong);
            }
            refusePairOfWords(some, wrong, wrong);
        }
        for (int shorter : new int[] {1, 33, 111, 3333}) {
            refusePairOfWords(some, shorter, shorter * 10 + 1);
            refusePairOfWords(some, shorter * 10 + 1, shorter);
        }
        refusePairOfWords(some, 1, 11111);
        refusePairOfWords(some, 11111, 1);
    }

    private void refusePairOfWords(boolean withBreaches, int form, int word) {
        if (withBreaches) {
            refusesBreaches(ARGUMENT, 0, form, word);
            refusesBreaches(ARGUMENT, 1, form, word);
        }
        refuses(ARGUMENT, call("isWinner", form, word), g -> g.isWinner(form, word));
        refuses(ARGUMENT, call("canWin", form, word), g -> g.canWin(form, word));
        refusesTeach(ARGUMENT, form, word);
    }

    // ---- an object with six demands and ten pairs

    private void onFull() {
        on(RefusalsTest::full);
        due.sentence("if there are 6 demands");
        for (int states = 1; states <= 4; states++) {
            refusesAutomaton(STATE, states);
        }
        for (int letter = 0; letter <= 3; letter++) {
            refusesKeeper(STATE, letter);
        }
        due.sentence("if there are 10 pairs");
        refusesTeach(STATE, 1, 1);
        refusesTeach(STATE, 33333, 11111);
        due.sentence("the one that is listed first is thrown");
        for (int states : new int[] {LEAST, -1, 0, 5, MOST}) {
            refusesAutomaton(ARGUMENT, states);
        }
        for (int letter : new int[] {LEAST, -1, 4, MOST}) {
            refusesKeeper(ARGUMENT, letter);
        }
        refuseWords();
        onFullNoSuchDemandOrPair();
    }

    private void onFullNoSuchDemandOrPair() {
        due.sentence("if there is no such demand");
        for (int demand : new int[] {LEAST, -1, 6, MOST}) {
            refusesArrow(BOUND, demand, 0, 1, 0, 0);
            refusesEnd(BOUND, demand, 0, 0);
            refusesRank(BOUND, demand, 0);
            refuses(BOUND, call("rankOf", demand), g -> g.rankOf(demand));
            refusesBreaches(BOUND, demand, 1, 1);
        }
        due.sentence("an automaton without such a state, or to which to is no state");
        int[][] behindLast = {{0, 4}, {2, 1}, {4, 2}, {5, 3}};
        for (int[] row : behindLast) {
            refusesArrow(BOUND, row[0], row[1], 1, 0, 0);
            refusesArrow(BOUND, row[0], 0, 1, row[1], 0);
            refusesEnd(BOUND, row[0], row[1], 0);
        }
        due.sentence("if there is no such pair");
        for (int pair : new int[] {LEAST, -1, 10, MOST}) {
            refusesWithdraw(pair);
        }
        due.sentence("if the pairs cannot be learned .. their ranks stay");
        asks("learn", RankedGrammar.NONE, RankedGrammar::learn);
    }
}
