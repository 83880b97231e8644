import java.util.Random;

/** The document's sentences on pairs, learning and tongues that name a boundary case. */
public final class LearningEdgesTest {
    private static final int LEAST = Integer.MIN_VALUE;
    private static final int MOST = Integer.MAX_VALUE;
    private static final int NONE = RankedGrammar.NONE;

    /** Ten different pairs, of words of each length. */
    private static final int[][] TEN = {
        {1, 1}, {2, 3}, {12, 12}, {33, 11}, {123, 321}, {222, 222}, {1231, 3121}, {3333, 1111},
        {12312, 12312}, {33333, 11111},
    };

    private final Due due = new Due();

    public static void main(String[] args) {
        LearningEdgesTest test = new LearningEdgesTest();
        test.testsOfPairs();
        test.testsOfLearning();
        test.testsOfOrdersAndWhatIsLeft();
        test.testsOfTongues();
        test.the512thCallAnswers();
        test.due.end("LearningEdgesTest");
    }

    private void testsOfPairs() {
        pairsAreNumberedFrom0();
        pairsAreAtMost10();
        pairsReturnsHowManyThereAre();
        aWinnerIsACandidateOfItsForm();
        aPairMayBeTaughtAgain();
        withdrawReturnsHowManyAreLeft();
        thoseBehindMoveUp();
        noSuchPair();
        pairsStayWhenDemandsChange();
    }

    private void testsOfLearning() {
        learnWithoutDemands();
        learnWithoutPairs();
        learnOnePairAndTen();
        candidatesAlikeAreNotExplainedAway();
        equalBreachesDoNotHinder();
        oneBreachMoreHinders();
        someCandidateOfSomePairHinders();
        allSuchDemandsGetTheRankAtOnce();
        onlyMoreBreachesExplainAway();
        theWordOfTheirPairIsCompared();
        sixRanksAreGiven();
        allDemandsLeftGetTheLastRank();
        noDemandAtRank0();
        noDemandAtALaterRank();
        ranksStayIfNotLearned();
        learnForgetsTheRanksBefore();
        learnedWordsWin();
    }

    private void testsOfOrdersAndWhatIsLeft() {
        isLearnableWithoutDemandsOrPairs();
        isLearnableByOneOf720Orders();
        isLearnableByNoneOf720Orders();
        isLearnableWhateverTheRanksAre();
        isLearnableByOneOrderForAllPairs();
        unexplainedIs0IfLearned();
        unexplainedWithoutDemandsOrPairs();
        unexplainedAtItsMost();
        unexplainedWhenLearningEnds();
        learnAndAllOrdersAgree();
    }

    private void testsOfTongues() {
        tonguesWithoutPairs();
        tonguesWithoutDemands();
        tonguesOfOneDemand();
        tonguesOfSixDemands();
        tonguesWhateverTheRanksAre();
        tonguesAreOfAllForms();
        tonguesAreTheBestOnesOnly();
    }

    // ---- what the tests build and ask

    private static RankedGrammar teach(RankedGrammar grammar, int... words) {
        for (int i = 0; i + 1 < words.length; i += 2) {
            grammar.teach(words[i], words[i + 1]);
        }
        return grammar;
    }

    private static RankedGrammar tables(int[]... rows) {
        RankedGrammar grammar = new RankedGrammar();
        for (int[] row : rows) {
            Grammars.table(grammar, row);
        }
        return grammar;
    }

    private void learns(RankedGrammar grammar, int ranksGiven, int... ranks) {
        due.answers("isLearnable", true, grammar::isLearnable);
        due.answers("unexplained", 0, grammar::unexplained);
        due.answers("learn", ranksGiven, grammar::learn);
        ranksAre(grammar, ranks);
    }

    private void learnsNot(RankedGrammar grammar, int left, int... ranks) {
        due.answers("isLearnable", false, grammar::isLearnable);
        due.answers("unexplained", left, grammar::unexplained);
        due.answers("learn", NONE, grammar::learn);
        ranksAre(grammar, ranks);
        due.answers("unexplained again", left, grammar::unexplained);
    }

    private void ranksAre(RankedGrammar grammar, int... ranks) {
        due.answers("demands", ranks.length, grammar::demands);
        for (int i = 0; i < ranks.length; i++) {
            int demand = i;
            due.answers("rankOf " + demand, ranks[i], () -> grammar.rankOf(demand));
        }
    }

    /** Demands that tell the ten pairs apart. */
    private static RankedGrammar withTenPairsBut(int left) {
        RankedGrammar grammar = Grammars.avoidersRoundKeeper();
        grammar.addKeeper(3);
        for (int pair = 0; pair < TEN.length; pair++) {
            if (pair != left) {
                teach(grammar, TEN[pair]);
            }
        }
        return grammar;
    }

    // ---- pairs

    private void pairsAreNumberedFrom0() {
        due.sentence("Pairs are numbered from 0 .. Returns the number of the pair.");
        RankedGrammar grammar = new RankedGrammar();
        for (int i = 0; i < 10; i++) {
            int pair = i;
            due.throwsBound("withdraw it before", () -> grammar.withdraw(pair));
            due.answers("teach", pair, () -> grammar.teach(TEN[pair][0], TEN[pair][1]));
        }
        RankedGrammar other = new RankedGrammar();
        due.answers("another object's", 0, () -> other.teach(1, 1));
    }

    private void pairsAreAtMost10() {
        due.sentence("at most 10 .. if there are 10 pairs");
        RankedGrammar grammar = new RankedGrammar();
        for (int i = 0; i < 10; i++) {
            int pair = i;
            due.answers("teach", pair, () -> grammar.teach(1, 1));
        }
        due.throwsState("an eleventh", () -> grammar.teach(1, 1));
        due.throwsState("an eleventh", () -> grammar.teach(33333, 33333));
        due.throwsArgument("an eleventh that is none", () -> grammar.teach(0, 1));
        due.throwsArgument("an eleventh that is none", () -> grammar.teach(1, 11));
        due.answers("pairs", 10, grammar::pairs);
        due.answers("withdraw", 9, () -> grammar.withdraw(0));
        due.answers("room for one", 9, () -> grammar.teach(2, 3));
        due.throwsState("and no more", () -> grammar.teach(2, 3));
    }

    private void pairsReturnsHowManyThereAre() {
        due.sentence("Returns how many pairs there are.");
        RankedGrammar grammar = new RankedGrammar();
        for (int i = 0; i < 10; i++) {
            due.answers("pairs", i, grammar::pairs);
            due.throwsArgument("no pair", () -> grammar.teach(4, 4));
            due.answers("pairs still", i, grammar::pairs);
            grammar.teach(1, 2);
        }
        due.answers("pairs", 10, grammar::pairs);
        for (int i = 9; i >= 0; i--) {
            grammar.withdraw(0);
            due.answers("pairs", i, grammar::pairs);
        }
    }

    private void aWinnerIsACandidateOfItsForm() {
        due.sentence("winner: a candidate of it");
        RankedGrammar grammar = new RankedGrammar();
        int pair = 0;
        int least = 1;
        for (int digits = 1; digits <= 5; digits++) {
            int first = least;
            int number = pair;
            due.answers("the last", number, () -> grammar.teach(first, 3 * first));
            due.answers("the least", number + 1, () -> grammar.teach(3 * first, first));
            pair += 2;
            least = least * 10 + 1;
        }
        grammar.withdraw(9);
        for (int word : new int[] {0, 4, 3, 333, -33, 34, 30, LEAST, MOST}) {
            due.throwsArgument("winner " + word, () -> grammar.teach(33, word));
            due.throwsArgument("form " + word, () -> grammar.teach(word, 33));
        }
        due.answers("pairs", 9, grammar::pairs);
    }

    private void aPairMayBeTaughtAgain() {
        due.sentence("a form and one of its candidates that is to be its winner");
        RankedGrammar grammar = Grammars.avoidersRoundKeeper();
        due.answers("teach", 0, () -> grammar.teach(1, 3));
        due.answers("the same", 1, () -> grammar.teach(1, 3));
        learns(grammar, 2, 0, 1, 0);
        due.answers("another word of the form", 2, () -> grammar.teach(1, 1));
        due.answers("learn", NONE, grammar::learn);
    }

    private void withdrawReturnsHowManyAreLeft() {
        due.sentence("Returns how many pairs there are then.");
        for (int k = 0; k < 10; k++) {
            int pair = k;
            RankedGrammar grammar = withTenPairsBut(NONE);
            due.answers("withdraw " + pair, 9, () -> grammar.withdraw(pair));
            due.answers("pairs", 9, grammar::pairs);
            due.throwsBound("withdraw 9", () -> grammar.withdraw(9));
        }
        RankedGrammar one = teach(new RankedGrammar(), 1, 1);
        due.answers("the only one", 0, () -> one.withdraw(0));
        due.throwsBound("none is left", () -> one.withdraw(0));
    }

    private void thoseBehindMoveUp() {
        due.sentence("Withdraws a pair; those behind it move up.");
        for (int pair = 0; pair < 10; pair++) {
            RankedGrammar grammar = withTenPairsBut(NONE);
            grammar.withdraw(pair);
            String want = Sight.of(withTenPairsBut(pair));
            due.answers("without " + pair, true, () -> want.equals(Sight.of(grammar)));
        }
    }

    private void noSuchPair() {
        due.sentence("if there is no such pair");
        for (int count : new int[] {0, 1, 9, 10}) {
            RankedGrammar grammar = new RankedGrammar();
            for (int pair = 0; pair < count; pair++) {
                teach(grammar, TEN[pair]);
            }
            for (int pair : new int[] {LEAST, -1, count, count + 1, 11, MOST}) {
                due.throwsBound("withdraw " + pair, () -> grammar.withdraw(pair));
            }
            due.answers("pairs", count, grammar::pairs);
            if (count > 0) {
                due.answers("the last one", count - 1, () -> grammar.withdraw(count - 1));
            }
        }
    }

    private void pairsStayWhenDemandsChange() {
        due.sentence("An order, whatever the ranks are, suits the pairs");
        RankedGrammar grammar = teach(new RankedGrammar(), 1, 2);
        learns(grammar, 0);
        grammar.addKeeper(0);
        learnsNot(grammar, 1, 0);
        Grammars.avoid(grammar, 1);
        Grammars.avoid(grammar, 3);
        learns(grammar, 2, 1, 0, 0);
        grammar.setArrow(1, 0, 1, 0, 0);
        learnsNot(grammar, 1, 1, 0, 0);
        grammar.setEnd(1, 0, 3);
        learnsNot(grammar, 1, 1, 0, 0);
    }

    // ---- learning

    private void learnWithoutDemands() {
        due.sentence("(0 without demands)");
        learns(new RankedGrammar(), 0);
        learns(teach(new RankedGrammar(), 1, 2), 0);
        RankedGrammar ten = new RankedGrammar();
        for (int[] pair : TEN) {
            teach(ten, pair);
        }
        learns(ten, 0);
    }

    private void learnWithoutPairs() {
        due.sentence("if there are none left, all demands left get this rank");
        RankedGrammar one = new RankedGrammar();
        one.addKeeper(0);
        one.setRank(0, 5);
        learns(one, 1, 0);
        RankedGrammar six = Grammars.chain();
        for (int demand = 0; demand < 6; demand++) {
            six.setRank(demand, demand);
        }
        learns(six, 1, 0, 0, 0, 0, 0, 0);
        six.teach(11, 11);
        learns(six, 6, 0, 1, 2, 3, 4, 5);
        six.withdraw(0);
        learns(six, 1, 0, 0, 0, 0, 0, 0);
    }

    private void learnOnePairAndTen() {
        due.sentence("all candidates of the forms of all pairs are to be explained away");
        RankedGrammar grammar = Grammars.avoidersRoundKeeper();
        for (int pair = 0; pair < 9; pair++) {
            teach(grammar, 22222, 22222);
            learns(grammar, 2, 0, 0, 1);
        }
        teach(grammar, 1, 3);
        learns(grammar, 3, 0, 1, 2);
        grammar.withdraw(9);
        teach(grammar, 22222, 33333);
        // No 1 gets rank 0; then the 31 other words without 1 are left, for each of the pairs.
        learnsNot(grammar, 10 * 31, 0, 1, 2);
    }

    private void candidatesAlikeAreNotExplainedAway() {
        due.sentence("that differ from its word in the breaches of some demand");
        RankedGrammar alike = teach(tables(new int[] {2, 2, 2, 2, 2, 2, 2, 2, 2}), 11, 33);
        learns(alike, 1, 0);
        RankedGrammar one = tables(new int[] {3, 3, 3, 3, 3, 3, 3, 3, 2});
        learnsNot(teach(one, 11, 11), 1, 0);
        learnsNot(teach(one, 11, 22, 33, 33), 1 + 1 + 8, 0);
        one.withdraw(0);
        one.withdraw(0);
        learns(one, 1, 0);
        RankedGrammar sixth = tables(
                new int[] {1, 1, 1, 1, 1, 1, 1, 1, 1}, new int[] {1, 1, 1, 1, 1, 1, 1, 1, 1},
                new int[] {1, 1, 1, 1, 1, 1, 1, 1, 1}, new int[] {1, 1, 1, 1, 1, 1, 1, 1, 1},
                new int[] {1, 1, 1, 1, 1, 1, 1, 1, 1}, new int[] {1, 1, 1, 1, 0, 1, 1, 1, 1});
        learnsNot(teach(sixth, 33, 11), 1, 0, 0, 0, 0, 0, 0);
    }

    private void equalBreachesDoNotHinder() {
        due.sentence("for no candidate that is left, the word of its pair has more breaches of it");
        RankedGrammar grammar = tables(
                new int[] {3, 3, 3, 3, 3, 3, 3, 3, 3}, new int[] {2, 3, 3, 3, 3, 3, 3, 3, 3});
        learns(teach(grammar, 22, 11), 1, 0, 0);
        RankedGrammar some = tables(
                new int[] {1, 1, 2, 2, 2, 2, 2, 2, 2}, new int[] {1, 2, 0, 0, 0, 0, 0, 0, 0});
        learns(teach(some, 22, 11), 2, 0, 1);
    }

    private void oneBreachMoreHinders() {
        due.sentence("the word of its pair has more breaches of it than the candidate");
        RankedGrammar grammar = tables(new int[] {1, 0, 1, 1, 1, 1, 1, 1, 1});
        learnsNot(teach(grammar, 22, 11), 1, 0);
        RankedGrammar most = tables(
                new int[] {3, 3, 3, 3, 3, 3, 3, 3, 2}, new int[] {0, 0, 0, 0, 0, 0, 0, 0, 3});
        learns(teach(most, 22, 11), 2, 1, 0);
    }

    private void someCandidateOfSomePairHinders() {
        due.sentence("for no candidate that is left");
        RankedGrammar grammar = tables(
                new int[] {0, 1, 1, 1, 1, 1, 1, 1, 1}, new int[] {1, 0, 0, 0, 0, 0, 0, 0, 0});
        for (int pair = 0; pair < 9; pair++) {
            teach(grammar, 22, 11);
        }
        learns(grammar, 2, 0, 1);
        teach(grammar, 22, 12);
        learnsNot(grammar, 9 * 8 + 1, 0, 1);
    }

    private void allSuchDemandsGetTheRankAtOnce() {
        due.sentence("all such demands get this rank at once");
        RankedGrammar grammar = tables(
                new int[] {0, 1, 0, 0, 0, 0, 0, 0, 0}, new int[] {0, 0, 1, 0, 0, 0, 0, 0, 0},
                new int[] {1, 0, 2, 1, 1, 1, 1, 1, 1}, new int[] {0, 0, 0, 0, 0, 0, 0, 0, 0},
                new int[] {1, 1, 0, 1, 1, 1, 1, 1, 1}, new int[] {1, 0, 0, 1, 1, 1, 1, 1, 1});
        learns(teach(grammar, 11, 11), 2, 0, 0, 1, 0, 1, 1);
        RankedGrammar reversed = tables(
                new int[] {1, 0, 0, 1, 1, 1, 1, 1, 1}, new int[] {1, 1, 0, 1, 1, 1, 1, 1, 1},
                new int[] {0, 0, 1, 0, 0, 0, 0, 0, 0}, new int[] {0, 1, 0, 0, 0, 0, 0, 0, 0});
        learns(teach(reversed, 11, 11), 2, 1, 1, 0, 0);
    }

    private void onlyMoreBreachesExplainAway() {
        due.sentence("all candidates are explained away which have .. more breaches than the word");
        RankedGrammar grammar = tables(
                new int[] {1, 1, 2, 2, 2, 2, 2, 2, 2}, new int[] {1, 0, 0, 0, 0, 0, 0, 0, 0});
        learnsNot(teach(grammar, 33, 11), 1, 0, 0);
        Grammars.table(grammar, 2, 3, 2, 2, 2, 2, 2, 2, 2);
        learns(grammar, 2, 0, 1, 0);
    }

    private void theWordOfTheirPairIsCompared() {
        due.sentence("than the word of their pair");
        RankedGrammar grammar = tables(
                new int[] {0, 1, 2, 3, 3, 3, 3, 3, 3}, new int[] {2, 1, 1, 2, 2, 2, 2, 2, 2});
        learnsNot(teach(grammar, 11, 11, 22, 12), 8 + 8, 0, 0);
        grammar.withdraw(0);
        learns(grammar, 2, 1, 0);
        grammar.withdraw(0);
        learns(teach(grammar, 22, 11), 2, 0, 1);
    }

    private void sixRanksAreGiven() {
        due.sentence("Ranks are given from 0 on .. It goes on until all demands have a rank");
        RankedGrammar grammar = teach(Grammars.chain(), 33, 11);
        learns(grammar, 6, 0, 1, 2, 3, 4, 5);
        learns(grammar, 6, 0, 1, 2, 3, 4, 5);
        due.answers("winners", true, () -> grammar.isWinner(33, 11));
        due.answers("winners", 4, () -> grammar.winners(33));
    }

    private void allDemandsLeftGetTheLastRank() {
        due.sentence("if there are none left, all demands left get this rank");
        RankedGrammar grammar = tables(
                new int[] {3, 0, 0, 0, 0, 0, 0, 0, 0}, new int[] {3, 0, 1, 2, 1, 2, 1, 2, 0},
                new int[] {0, 1, 1, 1, 1, 1, 1, 1, 1}, new int[] {3, 0, 0, 0, 0, 0, 0, 0, 0},
                new int[] {3, 2, 2, 2, 2, 2, 2, 2, 2}, new int[] {1, 0, 1, 1, 1, 1, 1, 1, 1});
        learns(teach(grammar, 33, 11), 2, 1, 1, 0, 1, 1, 1);
    }

    private void noDemandAtRank0() {
        due.sentence("if at some rank there is no such demand .. the pairs cannot be learned");
        RankedGrammar one = new RankedGrammar();
        one.addKeeper(0);
        one.setRank(0, 3);
        learnsNot(teach(one, 1, 2), 1, 3);
        RankedGrammar six = Grammars.withSixDemands();
        six.setRank(5, 5);
        learnsNot(teach(six, 11111, 22222), 243 - 32, 0, 0, 0, 0, 0, 5);
    }

    private void noDemandAtALaterRank() {
        due.sentence("if at some rank there is no such demand .. the pairs cannot be learned");
        RankedGrammar grammar = Grammars.chain();
        grammar.setArrow(5, 3, 1, 0, 0);
        due.answers("31 is like 11 but in the last demand", 0, () -> grammar.breaches(5, 11, 31));
        teach(grammar, 33, 11);
        learnsNot(grammar, 1, 0, 0, 0, 0, 0, 0);
        grammar.setArrow(0, 3, 1, 0, 1);
        learns(grammar, 6, 0, 1, 2, 3, 4, 5);
        grammar.setArrow(1, 1, 1, 0, 3);
        learnsNot(grammar, 7 - 1, 0, 1, 2, 3, 4, 5);
    }

    private void ranksStayIfNotLearned() {
        due.sentence("otherwise their ranks stay");
        RankedGrammar grammar = teach(Grammars.chain(), 33, 11);
        int[] ranks = {5, 0, 3, 3, 1, 4};
        for (int demand = 0; demand < 6; demand++) {
            grammar.setRank(demand, ranks[demand]);
        }
        grammar.setArrow(5, 3, 3, 0, 0);
        learnsNot(grammar, 1, ranks);
        due.answers("pairs", 1, grammar::pairs);
        grammar.setArrow(5, 3, 3, 0, 1);
        learns(grammar, 6, 0, 1, 2, 3, 4, 5);
    }

    private void learnForgetsTheRanksBefore() {
        due.sentence("the demands have the ranks then that are given by it");
        int[][] befores = {{0, 0, 0}, {5, 5, 5}, {2, 1, 0}, {0, 5, 3}};
        for (int[] ranks : befores) {
            RankedGrammar grammar = teach(Grammars.avoidersRoundKeeper(), 1, 3);
            for (int demand = 0; demand < 3; demand++) {
                grammar.setRank(demand, ranks[demand]);
            }
            learns(grammar, 2, 0, 1, 0);
            due.answers("setRank gives it back", 1, () -> grammar.setRank(1, 5));
            learns(grammar, 2, 0, 1, 0);
        }
    }

    private void learnedWordsWin() {
        due.sentence("a form and one of its candidates that is to be its winner");
        RankedGrammar grammar = teach(Grammars.avoidersRoundKeeper(), 12, 32, 2, 2, 1, 3);
        for (int demand = 0; demand < 3; demand++) {
            grammar.setRank(demand, 2 - demand);
        }
        due.answers("before", false, () -> grammar.isWinner(12, 32));
        learns(grammar, 3, 0, 1, 2);
        due.answers("learned", true, () -> grammar.isWinner(12, 32));
        due.answers("learned", 1, () -> grammar.winners(12));
        due.answers("learned", true, () -> grammar.isWinner(2, 2));
        due.answers("learned", true, () -> grammar.isWinner(1, 3));
    }

    // ---- orders, and what is left

    private void isLearnableWithoutDemandsOrPairs() {
        due.sentence("Tells whether some order of all demands suits the pairs");
        RankedGrammar empty = new RankedGrammar();
        due.answers("without both", true, empty::isLearnable);
        empty.teach(1, 3);
        due.answers("without demands", true, empty::isLearnable);
        RankedGrammar six = Grammars.withSixDemands();
        due.answers("without pairs", true, six::isLearnable);
    }

    private void isLearnableByOneOf720Orders() {
        due.sentence("found by trying all orders");
        RankedGrammar grammar = teach(Grammars.chain(), 33, 11);
        due.answers("by the first order", true, grammar::isLearnable);
        RankedGrammar last = new RankedGrammar();
        Grammars.table(last, 1, 1, 1, 1, 1, 0, 1, 1, 1);
        Grammars.table(last, 1, 1, 1, 1, 0, 2, 1, 1, 1);
        Grammars.table(last, 1, 1, 1, 0, 2, 1, 1, 1, 1);
        Grammars.table(last, 1, 1, 0, 2, 1, 1, 1, 1, 1);
        Grammars.table(last, 1, 0, 2, 1, 1, 1, 1, 1, 1);
        Grammars.table(last, 0, 1, 0, 0, 0, 0, 0, 0, 0);
        learns(teach(last, 33, 11), 6, 5, 4, 3, 2, 1, 0);
    }

    private void isLearnableByNoneOf720Orders() {
        due.sentence("found by trying all orders");
        RankedGrammar grammar = teach(Grammars.chain(), 33, 11);
        grammar.setArrow(0, 1, 2, 0, 0);
        learnsNot(grammar, 5, 0, 0, 0, 0, 0, 0);
    }

    private void isLearnableWhateverTheRanksAre() {
        due.sentence("A full order, whatever the ranks are, suits the pairs");
        RankedGrammar grammar = teach(Grammars.chain(), 33, 11);
        for (int demand = 0; demand < 6; demand++) {
            grammar.setRank(demand, 5 - demand);
        }
        due.answers("isLearnable", true, grammar::isLearnable);
        due.answers("it is no winner then", false, () -> grammar.isWinner(33, 11));
        ranksAre(grammar, 5, 4, 3, 2, 1, 0);
    }

    private void isLearnableByOneOrderForAllPairs() {
        due.sentence("suits the pairs if the word of each pair is among the best candidates");
        RankedGrammar grammar = teach(Grammars.sixRivals(), 33, 11);
        due.answers("the first", true, grammar::isLearnable);
        for (int pair = 1; pair < 9; pair++) {
            teach(grammar, 12, 11);
        }
        due.answers("nine of the same kind", true, grammar::isLearnable);
        teach(grammar, 11, 12);
        due.answers("the tenth one needs another order", false, grammar::isLearnable);
        for (int pair = 0; pair < 9; pair++) {
            grammar.withdraw(0);
        }
        due.answers("the tenth one alone", true, grammar::isLearnable);
        RankedGrammar two = teach(Grammars.avoidersRoundKeeper(), 12, 32, 2, 3);
        due.answers("each one has an order", true, () -> two.canWin(12, 32));
        due.answers("each one has an order", true, () -> two.canWin(2, 3));
        due.answers("there is none for both", false, two::isLearnable);
    }

    private void unexplainedIs0IfLearned() {
        due.sentence("0 if the pairs can be learned");
        due.answers("six ranks", 0, teach(Grammars.chain(), 33, 11)::unexplained);
        RankedGrammar ten = Grammars.avoidersRoundKeeper();
        for (int pair = 0; pair < 10; pair++) {
            teach(ten, 12312, 32332);
        }
        due.answers("ten long pairs", 0, ten::unexplained);
        for (int i = 1; i <= 10; i++) {
            int wrong = i;
            ten.withdraw(0);
            teach(ten, 12312, 32322);
            // 22332 and 32322 are alike, 32332 has fewer 2, and 22322 more: no 2 gets no rank.
            due.answers(wrong + " that cannot win", wrong * 2 + (10 - wrong) * 3,
                    ten::unexplained);
        }
    }

    private void unexplainedWithoutDemandsOrPairs() {
        due.sentence("Returns how many candidates are left, over all pairs together");
        RankedGrammar grammar = new RankedGrammar();
        due.answers("without both", 0, grammar::unexplained);
        grammar.teach(33333, 11111);
        due.answers("without demands", 0, grammar::unexplained);
        due.answers("without pairs", 0, Grammars.withSixDemands()::unexplained);
    }

    private void unexplainedAtItsMost() {
        due.sentence("Returns how many candidates are left, over all pairs together");
        RankedGrammar grammar = new RankedGrammar();
        Grammars.avoid(grammar, 1);
        for (int i = 1; i <= 10; i++) {
            int pairs = i;
            teach(grammar, 12321, 11111);
            due.answers(pairs + " pairs", pairs * 242, grammar::unexplained);
        }
        for (int demand = 1; demand < 6; demand++) {
            Grammars.avoid(grammar, 1);
        }
        due.answers("with six demands", 2420, grammar::unexplained);
        grammar.withdraw(9);
        teach(grammar, 1, 1);
        due.answers("one short pair", 9 * 242 + 2, grammar::unexplained);
    }

    private void unexplainedWhenLearningEnds() {
        due.sentence("when learning ends");
        RankedGrammar grammar = teach(Grammars.chain(), 33, 11);
        grammar.setArrow(5, 3, 1, 0, 0);
        grammar.setArrow(5, 3, 2, 0, 0);
        learnsNot(grammar, 2, 0, 0, 0, 0, 0, 0);
        grammar.setArrow(4, 1, 1, 0, 3);
        grammar.setArrow(3, 3, 3, 0, 2);
        // 12, 13, 21, 22 and 33 are explained away by the first four; 23, 31, 32 are left.
        learnsNot(grammar, 3, 0, 0, 0, 0, 0, 0);
    }

    /** Random demands and pairs: learning finds ranks just if trying all orders finds one. */
    private void learnAndAllOrdersAgree() {
        due.sentence("0 if the pairs can be learned");
        Random random = new Random(5);
        for (int run = 0; run < 200; run++) {
            RankedGrammar grammar = new RankedGrammar();
            int demands = 1 + random.nextInt(6);
            for (int demand = 0; demand < demands; demand++) {
                int[] row = new int[9];
                for (int word = 0; word < 9; word++) {
                    row[word] = random.nextInt(4);
                }
                Grammars.table(grammar, row);
                grammar.setRank(demand, random.nextInt(6));
            }
            for (int pair = random.nextInt(3); pair >= 0; pair--) {
                int place = random.nextInt(9);
                int winners = grammar.winners(11);
                teach(grammar, 11, grammar.winnerAt(11, place < winners ? place : 0));
            }
            boolean learnable = grammar.isLearnable();
            due.answers("unexplained", learnable, () -> grammar.unexplained() == 0);
            due.answers("learn", learnable, () -> grammar.learn() != NONE);
        }
    }

    // ---- tongues

    private void tonguesWithoutPairs() {
        due.sentence("1 without pairs");
        due.answers("without both", 1, new RankedGrammar()::tongues);
        RankedGrammar grammar = Grammars.sixRivals();
        due.answers("six demands", 1, grammar::tongues);
        teach(grammar, 11, 11);
        due.answers("one pair", 6, grammar::tongues);
        grammar.withdraw(0);
        due.answers("none again", 1, grammar::tongues);
    }

    private void tonguesWithoutDemands() {
        due.sentence("over all orders of all demands");
        RankedGrammar grammar = new RankedGrammar();
        for (int[] pair : TEN) {
            teach(grammar, pair);
            due.answers("tongues", 1, grammar::tongues);
        }
    }

    private void tonguesOfOneDemand() {
        due.sentence("over all orders of all demands");
        RankedGrammar grammar = new RankedGrammar();
        Grammars.avoid(grammar, 1);
        for (int[] pair : TEN) {
            teach(grammar, pair);
            due.answers("tongues", 1, grammar::tongues);
        }
    }

    private void tonguesOfSixDemands() {
        due.sentence("Returns how many different tongues there are, over all orders");
        RankedGrammar grammar = Grammars.sixRivals();
        for (int pair = 0; pair < 10; pair++) {
            teach(grammar, 11, 33);
            due.answers("the same form again", 6, grammar::tongues);
        }
        RankedGrammar alike = Grammars.withSixDemands();
        for (int[] pair : TEN) {
            teach(alike, pair);
        }
        due.answers("six demands alike", 1, alike::tongues);
    }

    private void tonguesWhateverTheRanksAre() {
        due.sentence("over all orders of all demands");
        RankedGrammar grammar = teach(Grammars.sixRivals(), 11, 11);
        for (int demand = 0; demand < 6; demand++) {
            grammar.setRank(demand, demand);
        }
        due.answers("tongues", 6, grammar::tongues);
        ranksAre(grammar, 0, 1, 2, 3, 4, 5);
    }

    private void tonguesAreOfAllForms() {
        due.sentence("a tongue is which candidates are the best ones, for each of the forms");
        RankedGrammar grammar = teach(Grammars.avoidersRoundKeeper(), 1, 1);
        due.answers("1: itself or 3", 2, grammar::tongues);
        teach(grammar, 2, 2);
        due.answers("and 2: itself or 3", 4, grammar::tongues);
        for (int pair = 2; pair < 9; pair++) {
            teach(grammar, 3, 3);
        }
        due.answers("and 3, which all keep", 4, grammar::tongues);
        grammar.addKeeper(1);
        grammar.addKeeper(2);
        due.answers("more keepers, 1 and 2 as before", 4, grammar::tongues);
        Grammars.avoid(grammar, 3);
        teach(grammar, 3, 3);
        // All are kept, or one becomes one other (6), or two become the third one (3).
        due.answers("no 3", 10, grammar::tongues);
    }

    private void tonguesAreTheBestOnesOnly() {
        due.sentence("which candidates are the best ones");
        RankedGrammar grammar = tables(
                new int[] {0, 0, 1, 2, 2, 2, 2, 2, 2}, new int[] {0, 0, 2, 1, 2, 2, 2, 2, 2});
        due.answers("the same best, the others differ", 1, teach(grammar, 11, 11)::tongues);
        Grammars.table(grammar, 0, 1, 2, 2, 2, 2, 2, 2, 2);
        due.answers("the third one tells the best apart", 1, grammar::tongues);
        Grammars.table(grammar, 1, 0, 2, 2, 2, 2, 2, 2, 2);
        due.answers("the fourth one against the third", 2, grammar::tongues);
    }

    // ---- the last call that is promised

    private void the512thCallAnswers() {
        due.sentence("An object is used for at most 512 calls after it has been made");
        RankedGrammar grammar = Grammars.avoidersRoundKeeper();
        teach(grammar, 1, 3, 2, 2);
        int calls = 3 + 2 + 2;
        while (calls < 512 - 10) {
            grammar.setRank(calls % 3, calls % 6);
            grammar.teach(12321, 32323);
            grammar.winners(12321);
            grammar.tongues();
            grammar.withdraw(2);
            calls += 5;
        }
        while (calls < 512 - 8) {
            grammar.demands();
            calls++;
        }
        due.answers("call 505", 2, grammar::pairs);
        due.answers("call 506", 0, grammar::unexplained);
        due.answers("call 507", true, grammar::isLearnable);
        due.answers("call 508", 4, grammar::tongues);
        due.answers("call 509", 3, grammar::learn);
        due.answers("call 510", 1, () -> grammar.rankOf(1));
        due.answers("call 511", 1, () -> grammar.winners(12321));
        due.answers("call 512", 32323, () -> grammar.winnerAt(12321, 0));
    }
}
