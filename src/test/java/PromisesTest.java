/** Each promise by its number: ordinary inputs, the edges that the document names, wrong inputs. */
public final class PromisesTest {
    private static final int LEAST = Integer.MIN_VALUE;
    private static final int MOST = Integer.MAX_VALUE;

    private final Due due = new Due();

    public static void main(String[] args) {
        PromisesTest test = new PromisesTest();
        test.testsOfDemands();
        test.testsOfWinners();
        test.testsOfPairs();
        test.due.end("PromisesTest");
    }

    private void testsOfDemands() {
        promise1BeginsEmpty();
        promise1ObjectsShareNothing();
        promise2NumbersAndStates();
        promise2BeginsWithoutBreaches();
        promise2WrongInputs();
        promise3NumbersAndLetters();
        promise3WrongInputs();
        promise4Arrows();
        promise4WrongInputs();
        promise4WrongInputsForKeepers();
        promise5Ends();
        promise5WrongInputs();
        promise6Ranks();
        promise6WrongInputs();
        promise7And8Demands();
        promise9OfAutomata();
        promise9OfKeepers();
        promise9MostBreaches();
        promise9WrongInputs();
    }

    private void testsOfWinners() {
        promise10Candidates();
        promise11WithoutDemands();
        promise11ByRanks();
        promise11TiedRanks();
        promise11AskedAgain();
        promise11WrongInputs();
        promise12InTheOrderOfNumbers();
        promise12WrongInputs();
        promise13Winners();
        promise14WhateverTheRanks();
        promise13And14WrongInputs();
    }

    private void testsOfPairs() {
        promise15Numbers();
        promise15WrongInputs();
        promise16MovesUp();
        promise16WrongInputs();
        promise17Pairs();
        promise18GivesRanks();
        promise18AllAtOnce();
        promise18Edges();
        promise18TenLongPairs();
        promise18CannotBeLearned();
        promise19SomeOrder();
        promise20WhatIsLeft();
        promise20CountsEachPair();
        promise21Tongues();
        promise21Edges();
        promise21AllOrders();
        promise21FormsTogether();
    }

    // ---- what the tests build

    private void ranksAre(String what, RankedGrammar grammar, int... ranks) {
        due.answers(what + ", demands", ranks.length, grammar::demands);
        for (int i = 0; i < ranks.length; i++) {
            int demand = i;
            due.answers(what + ", rankOf " + demand, ranks[i], () -> grammar.rankOf(demand));
        }
    }

    private void winnersAre(String what, RankedGrammar grammar, int form, int... winners) {
        due.answers(what + ", winners of " + form, winners.length, () -> grammar.winners(form));
        for (int i = 0; i < winners.length; i++) {
            int place = i;
            String call = what + ", winnerAt " + form + " " + place;
            due.answers(call, winners[i], () -> grammar.winnerAt(form, place));
        }
        due.throwsBound(what + ", behind the winners of " + form,
                () -> grammar.winnerAt(form, winners.length));
    }

    // ---- demands

    private void promise1BeginsEmpty() {
        RankedGrammar grammar = new RankedGrammar();
        due.answers("new demands", 0, grammar::demands);
        due.answers("new pairs", 0, grammar::pairs);
        due.throwsBound("new rankOf", () -> grammar.rankOf(0));
        due.throwsBound("new withdraw", () -> grammar.withdraw(0));
        due.answers("new winners", 27, () -> grammar.winners(123));
        due.answers("new isLearnable", true, grammar::isLearnable);
        due.answers("new learn", 0, grammar::learn);
        due.answers("new unexplained", 0, grammar::unexplained);
        due.answers("new tongues", 1, grammar::tongues);
    }

    private void promise1ObjectsShareNothing() {
        RankedGrammar full = Grammars.avoiders();
        full.setRank(0, 5);
        full.teach(1, 2);
        RankedGrammar other = new RankedGrammar();
        due.answers("other demands", 0, other::demands);
        due.answers("other pairs", 0, other::pairs);
        due.answers("other addAutomaton", 0, () -> other.addAutomaton(1));
        due.answers("other rankOf", 0, () -> other.rankOf(0));
        due.answers("other breaches", 0, () -> other.breaches(0, 1, 1));
    }

    private void promise2NumbersAndStates() {
        RankedGrammar grammar = new RankedGrammar();
        for (int i = 1; i <= 4; i++) {
            int states = i;
            due.answers("addAutomaton " + states, states - 1, () -> grammar.addAutomaton(states));
            due.answers("its last state", 0, () -> grammar.setEnd(states - 1, states - 1, 1));
            due.throwsBound("behind its last state", () -> grammar.setEnd(states - 1, states, 1));
            due.answers("an arrow between its last states", "set",
                    () -> Grammars.arrow(grammar, states - 1, states - 1, 3, states - 1, 3));
            due.throwsBound("an arrow from behind its last state",
                    () -> Grammars.arrow(grammar, states - 1, states, 1, 0, 0));
            due.throwsBound("an arrow behind its last state",
                    () -> Grammars.arrow(grammar, states - 1, 0, 1, states, 0));
        }
        due.answers("a fifth one", 4, () -> grammar.addAutomaton(4));
        due.answers("a sixth one", 5, () -> grammar.addAutomaton(1));
        due.answers("demands", 6, grammar::demands);
    }

    private void promise2BeginsWithoutBreaches() {
        RankedGrammar grammar = new RankedGrammar();
        grammar.addAutomaton(4);
        due.answers("first rank", 0, () -> grammar.rankOf(0));
        due.answers("first breaches", 0, () -> grammar.breaches(0, 12312, 32132));
        for (int state = 3; state > 0; state--) {
            grammar.setEnd(0, state, 3);
        }
        due.answers("no arrow leaves 0 at first", 0, () -> grammar.breaches(0, 12312, 32132));
        for (int letter = 1; letter <= 3; letter++) {
            grammar.setArrow(0, 0, letter, 1, 0);
        }
        due.answers("one letter leads to 1", 3, () -> grammar.breaches(0, 1, 2));
        due.answers("two letters lead back", 0, () -> grammar.breaches(0, 11, 23));
        due.answers("three letters lead to 1 again", 3, () -> grammar.breaches(0, 111, 231));
    }

    private void promise2WrongInputs() {
        RankedGrammar grammar = new RankedGrammar();
        for (int states : new int[] {LEAST, -1, 0, 5, MOST}) {
            due.throwsArgument("addAutomaton " + states, () -> grammar.addAutomaton(states));
        }
        due.answers("none was added", 0, grammar::demands);
        RankedGrammar full = Grammars.withSixDemands();
        due.throwsState("a seventh automaton", () -> full.addAutomaton(1));
        due.throwsArgument("a seventh automaton of 0 states", () -> full.addAutomaton(0));
        due.throwsArgument("a seventh automaton of 5 states", () -> full.addAutomaton(5));
        due.answers("no seventh was added", 6, full::demands);
        due.throwsBound("there is no seventh", () -> full.rankOf(6));
    }

    private void promise3NumbersAndLetters() {
        RankedGrammar grammar = new RankedGrammar();
        for (int i = 0; i <= 3; i++) {
            int letter = i;
            due.answers("addKeeper " + letter, letter, () -> grammar.addKeeper(letter));
            due.answers("first rank", 0, () -> grammar.rankOf(letter));
        }
        due.answers("an automaton behind keepers", 4, () -> grammar.addAutomaton(1));
        due.answers("a keeper behind it", 5, () -> grammar.addKeeper(1));
        due.answers("demands", 6, grammar::demands);
    }

    private void promise3WrongInputs() {
        RankedGrammar grammar = new RankedGrammar();
        for (int letter : new int[] {LEAST, -1, 4, MOST}) {
            due.throwsArgument("addKeeper " + letter, () -> grammar.addKeeper(letter));
        }
        due.answers("none was added", 0, grammar::demands);
        RankedGrammar full = Grammars.withSixDemands();
        due.throwsState("a seventh keeper", () -> full.addKeeper(0));
        due.throwsArgument("a seventh keeper of -1", () -> full.addKeeper(-1));
        due.throwsArgument("a seventh keeper of 4", () -> full.addKeeper(4));
        due.answers("no seventh was added", 6, full::demands);
    }

    private void promise4Arrows() {
        RankedGrammar grammar = new RankedGrammar();
        grammar.addAutomaton(3);
        grammar.addAutomaton(3);
        due.answers("0 -1-> 1, 1 breach", "set", () -> Grammars.arrow(grammar, 0, 0, 1, 1, 1));
        due.answers("1 -2-> 2, 2 breaches", "set", () -> Grammars.arrow(grammar, 0, 1, 2, 2, 2));
        due.answers("2 -3-> 2, 3 breaches", "set", () -> Grammars.arrow(grammar, 0, 2, 3, 2, 3));
        due.answers("123: 1 + 2 + 3", 6, () -> grammar.breaches(0, 111, 123));
        due.answers("12333", 12, () -> grammar.breaches(0, 11111, 12333));
        due.answers("321: only the last", 1, () -> grammar.breaches(0, 111, 321));
        due.answers("113: the second leads back", 1, () -> grammar.breaches(0, 111, 113));
        due.answers("12131: 1 + 2, then back to 0", 4, () -> grammar.breaches(0, 11111, 12113));
        due.answers("the other automaton stays", 0, () -> grammar.breaches(1, 111, 123));
        due.answers("1 -2-> 0, 0 breaches", "set", () -> Grammars.arrow(grammar, 0, 1, 2, 0, 0));
        due.answers("123 then", 1, () -> grammar.breaches(0, 111, 123));
        due.answers("121 then", 2, () -> grammar.breaches(0, 111, 121));
    }

    private void promise4WrongInputs() {
        RankedGrammar grammar = new RankedGrammar();
        grammar.addAutomaton(2);
        grammar.setArrow(0, 0, 1, 0, 2);
        for (int demand : new int[] {LEAST, -1, 1, 6, MOST}) {
            due.throwsBound("demand " + demand, () -> Grammars.arrow(grammar, demand, 0, 1, 0, 0));
            due.throwsBound("it goes first", () -> Grammars.arrow(grammar, demand, 9, 9, 9, 9));
        }
        for (int state : new int[] {LEAST, -1, 2, 3, MOST}) {
            due.throwsBound("state " + state, () -> Grammars.arrow(grammar, 0, state, 1, 0, 0));
            due.throwsBound("state first", () -> Grammars.arrow(grammar, 0, state, 0, 0, 4));
            due.throwsBound("to " + state, () -> Grammars.arrow(grammar, 0, 0, 1, state, 0));
            due.throwsBound("to first", () -> Grammars.arrow(grammar, 0, 0, 4, state, -1));
        }
        for (int wrong : new int[] {LEAST, -1, 4, MOST}) {
            due.throwsArgument("letter " + wrong, () -> Grammars.arrow(grammar, 0, 0, wrong, 0, 0));
            due.throwsArgument("breaches " + wrong,
                    () -> Grammars.arrow(grammar, 0, 0, 1, 0, wrong));
        }
        due.throwsArgument("letter 0", () -> Grammars.arrow(grammar, 0, 0, 0, 0, 0));
        due.answers("nothing has changed", 6, () -> grammar.breaches(0, 222, 111));
        due.answers("nor the other letters", 0, () -> grammar.breaches(0, 222, 223));
    }

    private void promise4WrongInputsForKeepers() {
        RankedGrammar grammar = new RankedGrammar();
        grammar.addKeeper(2);
        due.throwsState("a keeper", () -> Grammars.arrow(grammar, 0, 0, 1, 0, 0));
        due.throwsState("a keeper, whatever the state",
                () -> Grammars.arrow(grammar, 0, -1, 1, 0, 0));
        due.throwsState("a keeper, wherever to", () -> Grammars.arrow(grammar, 0, 0, 1, MOST, 3));
        due.throwsArgument("letter ahead of keeper", () -> Grammars.arrow(grammar, 0, 0, 4, 0, 0));
        due.throwsArgument("breaches ahead of keeper",
                () -> Grammars.arrow(grammar, 0, 9, 1, 9, 4));
        due.throwsBound("no demand ahead of all", () -> Grammars.arrow(grammar, 1, 0, 4, 0, 4));
        due.answers("it counts as before", 1, () -> grammar.breaches(0, 212, 112));
    }

    private void promise5Ends() {
        RankedGrammar grammar = new RankedGrammar();
        grammar.addAutomaton(2);
        grammar.addAutomaton(2);
        grammar.setArrow(0, 0, 1, 1, 1);
        due.answers("before: 0", 0, () -> grammar.setEnd(0, 1, 3));
        due.answers("before: 3", 3, () -> grammar.setEnd(0, 1, 2));
        due.answers("before: 2", 2, () -> grammar.setEnd(0, 1, 2));
        due.answers("the other state's", 0, () -> grammar.setEnd(0, 0, 1));
        due.answers("the other automaton's", 0, () -> grammar.setEnd(1, 1, 0));
        due.answers("ends in 1", 3, () -> grammar.breaches(0, 2, 1));
        due.answers("ends in 0", 1, () -> grammar.breaches(0, 2, 2));
        due.answers("passes 1, ends in 0", 2, () -> grammar.breaches(0, 22, 12));
        due.answers("the other automaton counts none", 0, () -> grammar.breaches(1, 22, 12));
        due.answers("back to 0", 2, () -> grammar.setEnd(0, 1, 0));
        due.answers("ends in 1 then", 1, () -> grammar.breaches(0, 2, 1));
    }

    private void promise5WrongInputs() {
        RankedGrammar grammar = new RankedGrammar();
        grammar.addAutomaton(2);
        grammar.addKeeper(0);
        grammar.setEnd(0, 0, 2);
        for (int wrong : new int[] {LEAST, -1, 2, MOST}) {
            due.throwsBound("demand " + wrong, () -> grammar.setEnd(wrong, 0, 0));
            due.throwsBound("demand ahead of breaches", () -> grammar.setEnd(wrong, 0, 4));
            due.throwsBound("state " + wrong, () -> grammar.setEnd(0, wrong, 0));
            due.throwsBound("state ahead of breaches", () -> grammar.setEnd(0, wrong, -1));
        }
        for (int wrong : new int[] {LEAST, -1, 4, MOST}) {
            due.throwsArgument("breaches " + wrong, () -> grammar.setEnd(0, 0, wrong));
            due.throwsArgument("breaches ahead of keeper", () -> grammar.setEnd(1, 9, wrong));
        }
        due.throwsState("a keeper", () -> grammar.setEnd(1, 0, 0));
        due.throwsState("a keeper, whatever the state", () -> grammar.setEnd(1, -1, 3));
        due.answers("nothing has changed", 2, () -> grammar.setEnd(0, 0, 0));
    }

    private void promise6Ranks() {
        RankedGrammar grammar = new RankedGrammar();
        grammar.addAutomaton(1);
        grammar.addKeeper(1);
        due.answers("0 to 5", 0, () -> grammar.setRank(0, 5));
        due.answers("5 to 3", 5, () -> grammar.setRank(0, 3));
        due.answers("the keeper's", 0, () -> grammar.setRank(1, 1));
        due.answers("3 to 3", 3, () -> grammar.setRank(0, 3));
        ranksAre("after setRank", grammar, 3, 1);
        due.answers("3 to 0", 3, () -> grammar.setRank(0, 0));
        ranksAre("after setRank 0", grammar, 0, 1);
    }

    private void promise6WrongInputs() {
        RankedGrammar grammar = new RankedGrammar();
        grammar.addKeeper(0);
        grammar.setRank(0, 4);
        for (int wrong : new int[] {LEAST, -1, 6, MOST}) {
            due.throwsBound("demand " + wrong, () -> grammar.setRank(wrong, 0));
            due.throwsBound("demand ahead of rank", () -> grammar.setRank(wrong, 6));
            due.throwsArgument("rank " + wrong, () -> grammar.setRank(0, wrong));
        }
        due.throwsBound("the next demand", () -> grammar.setRank(1, 0));
        ranksAre("nothing has changed", grammar, 4);
    }

    private void promise7And8Demands() {
        RankedGrammar grammar = new RankedGrammar();
        for (int i = 0; i < 6; i++) {
            int demand = i;
            due.answers("demands", demand, grammar::demands);
            due.throwsBound("rankOf the next", () -> grammar.rankOf(demand));
            grammar.addKeeper(0);
            grammar.setRank(demand, 5 - demand);
        }
        ranksAre("six", grammar, 5, 4, 3, 2, 1, 0);
        for (int wrong : new int[] {LEAST, -1, 6, 7, MOST}) {
            due.throwsBound("rankOf " + wrong, () -> grammar.rankOf(wrong));
        }
    }

    private void promise9OfAutomata() {
        RankedGrammar grammar = new RankedGrammar();
        Grammars.avoid(grammar, 2);
        due.answers("2 once", 1, () -> grammar.breaches(0, 2, 2));
        due.answers("no 2", 0, () -> grammar.breaches(0, 2, 1));
        due.answers("2 at the front", 1, () -> grammar.breaches(0, 11111, 21111));
        due.answers("2 at the end", 1, () -> grammar.breaches(0, 11111, 11112));
        due.answers("2 five times", 5, () -> grammar.breaches(0, 11111, 22222));
        due.answers("whatever the form is", 5, () -> grammar.breaches(0, 22222, 22222));
        grammar.addAutomaton(2);
        grammar.setArrow(1, 0, 1, 1, 0);
        grammar.setArrow(1, 1, 3, 0, 3);
        due.answers("the first digit is read first", 3, () -> grammar.breaches(1, 11, 13));
        due.answers("and not the last", 0, () -> grammar.breaches(1, 11, 31));
    }

    private void promise9OfKeepers() {
        RankedGrammar grammar = new RankedGrammar();
        for (int letter = 0; letter <= 3; letter++) {
            grammar.addKeeper(letter);
        }
        int[][] rows = {
            {12312, 12312, 0, 0, 0, 0}, {12312, 22312, 1, 1, 0, 0}, {12312, 12311, 1, 0, 1, 0},
            {12312, 12112, 1, 0, 0, 1}, {12312, 21123, 5, 2, 2, 1}, {33333, 11111, 5, 0, 0, 5},
            {1, 3, 1, 1, 0, 0}, {3, 1, 1, 0, 0, 1}, {21, 12, 2, 1, 1, 0}, {113, 331, 3, 2, 0, 1},
        };
        for (int[] row : rows) {
            for (int i = 0; i <= 3; i++) {
                int letter = i;
                due.answers("keeper " + letter + " of " + row[0] + " " + row[1], row[2 + letter],
                        () -> grammar.breaches(letter, row[0], row[1]));
            }
        }
    }

    private void promise9MostBreaches() {
        RankedGrammar grammar = new RankedGrammar();
        for (int i = 0; i < 6; i++) {
            int demand = grammar.addAutomaton(4);
            for (int state = 0; state < 4; state++) {
                for (int letter = 1; letter <= 3; letter++) {
                    grammar.setArrow(demand, state, letter, (state + 1) % 4, 3);
                }
                grammar.setEnd(demand, state, 3);
            }
            due.answers("five arrows and the end", 18,
                    () -> grammar.breaches(demand, 11111, 23123));
        }
        due.answers("all are alike", 243, () -> grammar.winners(33333));
        grammar.setArrow(5, 0, 3, 1, 2);
        due.answers("33333 takes it twice", 16, () -> grammar.breaches(5, 11111, 33333));
        winnersAre("the sixth one's", grammar, 33333, 31113, 31123, 31133, 31213, 31223, 31233,
                31313, 31323, 31333, 32113, 32123, 32133, 32213, 32223, 32233, 32313, 32323, 32333,
                33113, 33123, 33133, 33213, 33223, 33233, 33313, 33323, 33333);
    }

    private void promise9WrongInputs() {
        RankedGrammar grammar = new RankedGrammar();
        grammar.addKeeper(0);
        grammar.addAutomaton(1);
        for (int wrong : new int[] {LEAST, -1, 2, 6, MOST}) {
            due.throwsBound("demand " + wrong, () -> grammar.breaches(wrong, 1, 1));
            due.throwsBound("demand ahead of words", () -> grammar.breaches(wrong, 0, 14));
        }
        for (int wrong : Grammars.NO_WORDS) {
            due.throwsArgument("form " + wrong, () -> grammar.breaches(0, wrong, 1));
            due.throwsArgument("candidate " + wrong, () -> grammar.breaches(1, 11, wrong));
            due.throwsArgument("both " + wrong, () -> grammar.breaches(1, wrong, wrong));
        }
        due.throwsArgument("a shorter candidate", () -> grammar.breaches(0, 11, 1));
        due.throwsArgument("a longer candidate", () -> grammar.breaches(1, 1111, 11111));
    }

    // ---- winners

    private void promise10Candidates() {
        RankedGrammar grammar = Grammars.avoiders();
        int[][] rows = {
            {1, 3}, {3, 3}, {11, 9}, {33, 9}, {111, 27}, {333, 27}, {1111, 81}, {3333, 81},
            {11111, 243}, {12321, 243}, {33333, 243},
        };
        for (int[] row : rows) {
            due.answers("candidates " + row[0], row[1], () -> grammar.candidates(row[0]));
        }
        for (int wrong : Grammars.NO_WORDS) {
            due.throwsArgument("candidates " + wrong, () -> grammar.candidates(wrong));
        }
    }

    private void promise11WithoutDemands() {
        RankedGrammar grammar = new RankedGrammar();
        winnersAre("without demands", grammar, 2, 1, 2, 3);
        winnersAre("without demands", grammar, 31, 11, 12, 13, 21, 22, 23, 31, 32, 33);
        due.answers("winners", 243, () -> grammar.winners(11111));
        due.answers("the last one", 33333, () -> grammar.winnerAt(11111, 242));
        due.answers("isWinner", true, () -> grammar.isWinner(11111, 23123));
        due.answers("canWin", true, () -> grammar.canWin(11111, 23123));
        grammar.addAutomaton(4);
        due.answers("a demand without breaches", 243, () -> grammar.winners(11111));
    }

    private void promise11ByRanks() {
        RankedGrammar grammar = Grammars.avoiders();
        int[][] rows = {
            {0, 1, 2, 3333}, {1, 2, 0, 2222}, {5, 4, 3, 1111}, {0, 5, 2, 2222}, {2, 0, 1, 1111},
            {1, 0, 2, 3333}, {3, 0, 0, 1111}, {4, 5, 4, 2222},
        };
        for (int[] row : rows) {
            for (int demand = 0; demand < 3; demand++) {
                grammar.setRank(demand, row[demand]);
            }
            winnersAre("ranks " + row[0] + row[1] + row[2], grammar, 2131, row[3]);
        }
    }

    private void promise11TiedRanks() {
        RankedGrammar grammar = Grammars.avoiders();
        winnersAre("all tied", grammar, 12, 11, 22, 33);
        grammar.setRank(2, 1);
        winnersAre("two tied above", grammar, 12, 33);
        grammar.setRank(0, 1);
        grammar.setRank(2, 1);
        winnersAre("two tied below", grammar, 12, 11, 33);
        int keeper = grammar.addKeeper(0);
        winnersAre("a keeper, tied with no 2", grammar, 12, 11, 12, 13);
        grammar.setRank(keeper, 1);
        winnersAre("a keeper, tied below", grammar, 12, 11, 13, 33);
    }

    private void promise11AskedAgain() {
        RankedGrammar grammar = new RankedGrammar();
        grammar.addAutomaton(1);
        due.answers("first", 9, () -> grammar.winners(12));
        grammar.setArrow(0, 0, 1, 0, 1);
        winnersAre("after setArrow", grammar, 12, 22, 23, 32, 33);
        winnersAre("another length", grammar, 1, 2, 3);
        grammar.setArrow(0, 0, 2, 0, 1);
        winnersAre("after setArrow again", grammar, 12, 33);
        grammar.addKeeper(0);
        grammar.setRank(0, 1);
        winnersAre("after addKeeper", grammar, 12, 12);
        winnersAre("another form", grammar, 21, 21);
        grammar.addAutomaton(2);
        grammar.setArrow(2, 0, 1, 1, 0);
        due.answers("the keeper is above", 1, () -> grammar.winners(12));
        grammar.setEnd(2, 0, 1);
        winnersAre("after setEnd, tied", grammar, 13, 13, 31);
    }

    private void promise11WrongInputs() {
        RankedGrammar grammar = Grammars.avoiders();
        for (int wrong : Grammars.NO_WORDS) {
            due.throwsArgument("winners " + wrong, () -> grammar.winners(wrong));
        }
    }

    private void promise12InTheOrderOfNumbers() {
        RankedGrammar grammar = new RankedGrammar();
        Grammars.avoid(grammar, 2);
        winnersAre("no 2", grammar, 222, 111, 113, 131, 133, 311, 313, 331, 333);
        grammar.addKeeper(0);
        grammar.setRank(1, 1);
        winnersAre("no 2, then keep", grammar, 321, 311, 331);
        grammar.setRank(0, 2);
        winnersAre("keep, then no 2", grammar, 321, 321);
        grammar.setRank(0, 1);
        winnersAre("tied", grammar, 321, 311, 321, 331);
    }

    private void promise12WrongInputs() {
        RankedGrammar grammar = Grammars.avoiders();
        for (int wrong : Grammars.NO_WORDS) {
            due.throwsArgument("form " + wrong, () -> grammar.winnerAt(wrong, 0));
            due.throwsArgument("form ahead of a far place", () -> grammar.winnerAt(wrong, MOST));
            due.throwsBound("a place below 0 ahead of form", () -> grammar.winnerAt(wrong, -1));
        }
        for (int wrong : new int[] {LEAST, -1, 3, 4, 9, 243, 1000, MOST}) {
            due.throwsBound("place " + wrong, () -> grammar.winnerAt(12, wrong));
        }
        due.answers("the last place", 33, () -> grammar.winnerAt(12, 2));
    }

    private void promise13Winners() {
        RankedGrammar grammar = Grammars.avoiders();
        grammar.setRank(1, 1);
        grammar.setRank(2, 1);
        due.answers("33 of 12", true, () -> grammar.isWinner(12, 33));
        due.answers("22 of 12", true, () -> grammar.isWinner(12, 22));
        due.answers("11 of 12", false, () -> grammar.isWinner(12, 11));
        due.answers("12 of 12", false, () -> grammar.isWinner(12, 12));
        due.answers("23 of 12", false, () -> grammar.isWinner(12, 23));
        due.answers("11111 of 33333", false, () -> grammar.isWinner(33333, 11111));
        due.answers("22222 of 33333", true, () -> grammar.isWinner(33333, 22222));
        grammar.setRank(0, 2);
        due.answers("11 of 12 then", true, () -> grammar.isWinner(12, 11));
        due.answers("33 of 12 then", false, () -> grammar.isWinner(12, 33));
    }

    private void promise14WhateverTheRanks() {
        RankedGrammar grammar = Grammars.avoiders();
        for (int rank = 0; rank < 6; rank++) {
            grammar.setRank(0, rank);
            grammar.setRank(1, 5 - rank);
            for (int word : new int[] {11, 22, 33}) {
                due.answers("canWin 12 " + word, true, () -> grammar.canWin(12, word));
            }
            due.answers("canWin 12 12", false, () -> grammar.canWin(12, 12));
            due.answers("canWin 12 31", false, () -> grammar.canWin(12, 31));
        }
        ranksAre("canWin changes no ranks", grammar, 5, 0, 0);
        grammar.addKeeper(0);
        due.answers("kept above all", true, () -> grammar.canWin(12, 12));
        due.answers("no 2, then kept", true, () -> grammar.canWin(12, 13));
        due.answers("no 1, then kept", true, () -> grammar.canWin(12, 22));
        due.answers("never 21", false, () -> grammar.canWin(12, 21));
    }

    private void promise13And14WrongInputs() {
        RankedGrammar grammar = Grammars.avoiders();
        for (int wrong : Grammars.NO_WORDS) {
            due.throwsArgument("isWinner " + wrong + " 1", () -> grammar.isWinner(wrong, 1));
            due.throwsArgument("isWinner 11 " + wrong, () -> grammar.isWinner(11, wrong));
            due.throwsArgument("isWinner " + wrong, () -> grammar.isWinner(wrong, wrong));
            due.throwsArgument("canWin " + wrong + " 1", () -> grammar.canWin(wrong, 1));
            due.throwsArgument("canWin 11 " + wrong, () -> grammar.canWin(11, wrong));
            due.throwsArgument("canWin " + wrong, () -> grammar.canWin(wrong, wrong));
        }
        due.throwsArgument("isWinner, shorter", () -> grammar.isWinner(111, 11));
        due.throwsArgument("isWinner, longer", () -> grammar.isWinner(111, 1111));
        due.throwsArgument("canWin, shorter", () -> grammar.canWin(111, 11));
        due.throwsArgument("canWin, longer", () -> grammar.canWin(111, 1111));
    }

    // ---- pairs and learning

    private void promise15Numbers() {
        RankedGrammar grammar = new RankedGrammar();
        for (int i = 0; i < 10; i++) {
            int pair = i;
            due.answers("teach " + pair, pair,
                    () -> pair < 5 ? grammar.teach(33333, 11111) : grammar.teach(1, 3));
        }
        due.throwsState("an eleventh", () -> grammar.teach(1, 1));
        due.answers("ten pairs", 10, grammar::pairs);
        grammar.withdraw(3);
        due.answers("room again", 9, () -> grammar.teach(2, 2));
        due.throwsState("no room again", () -> grammar.teach(2, 2));
    }

    private void promise15WrongInputs() {
        RankedGrammar grammar = new RankedGrammar();
        for (int i = 0; i <= 10; i += 10) {
            for (int wrong : Grammars.NO_WORDS) {
                due.throwsArgument("form " + wrong, () -> grammar.teach(wrong, 1));
                due.throwsArgument("winner " + wrong, () -> grammar.teach(11, wrong));
                due.throwsArgument("both " + wrong, () -> grammar.teach(wrong, wrong));
            }
            due.throwsArgument("a shorter winner", () -> grammar.teach(11, 1));
            due.throwsArgument("a longer winner", () -> grammar.teach(1111, 11111));
            due.answers("none was taught", i, grammar::pairs);
            for (int more = 0; i == 0 && more < 10; more++) {
                grammar.teach(1, 1);
            }
        }
    }

    private void promise16MovesUp() {
        RankedGrammar grammar = Grammars.avoidersRoundKeeper();
        grammar.teach(1, 3);
        grammar.teach(1, 1);
        grammar.teach(2, 2);
        due.answers("1 to 3 and 1 to 1", false, grammar::isLearnable);
        due.answers("withdraw 1 to 3", 2, () -> grammar.withdraw(0));
        due.answers("1 to 1 and 2 to 2", true, grammar::isLearnable);
        due.answers("teach 2 to 3", 2, () -> grammar.teach(2, 3));
        due.answers("2 to 2 and 2 to 3", false, grammar::isLearnable);
        due.answers("withdraw 2 to 2", 2, () -> grammar.withdraw(1));
        due.answers("1 to 1 and 2 to 3: no 2 is highest", true, grammar::isLearnable);
        due.answers("learn", 3, grammar::learn);
        ranksAre("no 2, keep, no 1", grammar, 2, 1, 0);
        due.answers("withdraw the last", 1, () -> grammar.withdraw(1));
        due.answers("withdraw the only one", 0, () -> grammar.withdraw(0));
        due.answers("none is left", 0, grammar::unexplained);
    }

    private void promise16WrongInputs() {
        RankedGrammar grammar = new RankedGrammar();
        due.throwsBound("no pair at all", () -> grammar.withdraw(0));
        grammar.teach(1, 1);
        grammar.teach(2, 2);
        for (int wrong : new int[] {LEAST, -1, 2, 9, 10, MOST}) {
            due.throwsBound("withdraw " + wrong, () -> grammar.withdraw(wrong));
        }
        due.answers("none was withdrawn", 2, grammar::pairs);
    }

    private void promise17Pairs() {
        RankedGrammar grammar = new RankedGrammar();
        for (int i = 0; i < 10; i++) {
            due.answers("pairs", i, grammar::pairs);
            grammar.teach(12, 12);
        }
        due.answers("pairs", 10, grammar::pairs);
        for (int i = 9; i >= 0; i--) {
            grammar.withdraw(i / 2);
            due.answers("pairs", i, grammar::pairs);
        }
    }

    private void promise18GivesRanks() {
        RankedGrammar grammar = Grammars.avoidersRoundKeeper();
        for (int demand = 0; demand < 3; demand++) {
            grammar.setRank(demand, 5);
        }
        grammar.teach(1, 3);
        due.answers("no 1 and no 2 above keep", 2, grammar::learn);
        ranksAre("3 of 1", grammar, 0, 1, 0);
        grammar.teach(2, 2);
        due.answers("keep above no 2", 3, grammar::learn);
        ranksAre("and 2 of 2", grammar, 0, 1, 2);
        winnersAre("learned", grammar, 12, 32);
        winnersAre("learned", grammar, 12321, 32323);
        due.answers("learned again", 3, grammar::learn);
        ranksAre("learned again", grammar, 0, 1, 2);
    }

    private void promise18AllAtOnce() {
        RankedGrammar grammar = Grammars.avoidersRoundKeeper();
        grammar.teach(1, 3);
        grammar.teach(2, 2);
        due.answers("no 1, keep, no 2: one at a time", 3, grammar::learn);
        ranksAre("one at a time", grammar, 0, 1, 2);
        RankedGrammar other = Grammars.avoiders();
        other.teach(1, 3);
        other.teach(11, 33);
        due.answers("no 1 and no 2 at once", 2, other::learn);
        ranksAre("at once", other, 0, 0, 1);
    }

    private void promise18Edges() {
        RankedGrammar without = new RankedGrammar();
        without.teach(1, 2);
        due.answers("without demands", 0, without::learn);
        due.answers("without demands", true, without::isLearnable);
        due.answers("without demands", 0, without::unexplained);
        RankedGrammar grammar = Grammars.avoiders();
        grammar.setRank(0, 5);
        grammar.setRank(2, 3);
        due.answers("without pairs", 1, grammar::learn);
        ranksAre("without pairs", grammar, 0, 0, 0);
        RankedGrammar alike = new RankedGrammar();
        alike.addAutomaton(1);
        alike.addKeeper(3);
        alike.setRank(0, 4);
        alike.teach(12, 21);
        due.answers("all candidates are alike", 1, alike::learn);
        ranksAre("all candidates are alike", alike, 0, 0);
        RankedGrammar six = Grammars.withSixDemands();
        six.teach(123, 123);
        due.answers("six keepers at once", 1, six::learn);
        six.teach(1, 2);
        due.answers("six keepers against it", RankedGrammar.NONE, six::learn);
    }

    private void promise18TenLongPairs() {
        RankedGrammar grammar = Grammars.avoidersRoundKeeper();
        for (int i = 0; i < 10; i++) {
            grammar.teach(12321, 32323);
        }
        due.answers("ten long pairs", 3, grammar::learn);
        ranksAre("ten long pairs", grammar, 0, 1, 2);
        due.answers("ten long pairs", true, grammar::isLearnable);
        due.answers("ten long pairs", 0, grammar::unexplained);
        due.answers("ten long pairs", 4, grammar::tongues);
    }

    private void promise18CannotBeLearned() {
        RankedGrammar grammar = Grammars.avoidersRoundKeeper();
        grammar.setRank(0, 3);
        grammar.setRank(1, 5);
        grammar.setRank(2, 1);
        grammar.teach(1, 3);
        grammar.teach(2, 2);
        grammar.teach(1, 1);
        due.answers("learn", RankedGrammar.NONE, grammar::learn);
        ranksAre("the ranks stay", grammar, 3, 5, 1);
        due.answers("three pairs stay", 3, grammar::pairs);
        grammar.withdraw(2);
        due.answers("unexplained", 0, grammar::unexplained);
        due.answers("isLearnable", true, grammar::isLearnable);
        ranksAre("only learn changes ranks", grammar, 3, 5, 1);
        due.answers("learn then", 3, grammar::learn);
        ranksAre("learned", grammar, 0, 1, 2);
    }

    private void promise19SomeOrder() {
        RankedGrammar grammar = Grammars.avoiders();
        due.answers("without pairs", true, grammar::isLearnable);
        grammar.teach(12, 33);
        due.answers("33 of 12", true, grammar::isLearnable);
        grammar.setRank(2, 0);
        grammar.setRank(0, 5);
        grammar.setRank(1, 5);
        due.answers("whatever the ranks are", true, grammar::isLearnable);
        grammar.teach(1, 2);
        due.answers("each one alone could be", false, grammar::isLearnable);
        grammar.withdraw(0);
        due.answers("2 of 1", true, grammar::isLearnable);
        grammar.teach(1, 2);
        due.answers("twice the same", true, grammar::isLearnable);
        grammar.teach(13, 12);
        due.answers("12 of 13 cannot win", false, grammar::isLearnable);
        grammar.withdraw(2);
        due.answers("without it", true, grammar::isLearnable);
        RankedGrammar six = Grammars.withSixDemands();
        six.teach(1, 2);
        due.answers("none of 720 orders", false, six::isLearnable);
        ranksAre("isLearnable changes no ranks", grammar, 5, 5, 0);
    }

    private void promise20WhatIsLeft() {
        RankedGrammar grammar = new RankedGrammar();
        Grammars.avoid(grammar, 1);
        grammar.teach(12, 12);
        due.answers("22, 23, 32, 33, and 11 as well", 5, grammar::unexplained);
        grammar.teach(2, 1);
        due.answers("and 2, 3", 7, grammar::unexplained);
        grammar.withdraw(0);
        due.answers("2, 3", 2, grammar::unexplained);
        grammar.addKeeper(2);
        due.answers("2 has fewer of both", 2, grammar::unexplained);
        Grammars.avoid(grammar, 2);
        due.answers("no 2 explains 2 away", 1, grammar::unexplained);
        Grammars.avoid(grammar, 3);
        due.answers("no 3 explains 3 away", 0, grammar::unexplained);
        ranksAre("unexplained changes no ranks", grammar, 0, 0, 0, 0);
    }

    private void promise20CountsEachPair() {
        RankedGrammar grammar = new RankedGrammar();
        grammar.addKeeper(0);
        due.answers("without pairs", 0, grammar::unexplained);
        grammar.teach(1, 2);
        due.answers("2 of 1: only 1 is left, for 3 is alike", 1, grammar::unexplained);
        grammar.teach(1, 2);
        due.answers("the same pair again", 2, grammar::unexplained);
        grammar.teach(1, 1);
        due.answers("1 of 1: 2 and 3", 4, grammar::unexplained);
        for (int i = 0; i < 7; i++) {
            grammar.teach(11111, 22222);
        }
        due.answers("all but the 32 alike", 4 + 7 * (243 - 32), grammar::unexplained);
    }

    private void promise21Tongues() {
        RankedGrammar grammar = new RankedGrammar();
        Grammars.avoid(grammar, 1);
        grammar.addKeeper(0);
        due.answers("without pairs", 1, grammar::tongues);
        grammar.teach(2, 2);
        due.answers("2 is always the best", 1, grammar::tongues);
        grammar.teach(12, 33);
        due.answers("12, or 22 and 32", 2, grammar::tongues);
        grammar.teach(12, 12);
        due.answers("the words do not matter", 2, grammar::tongues);
        Grammars.avoid(grammar, 2);
        due.answers("no 1, no 2, keep", 4, grammar::tongues);
        for (int demand = 0; demand < 3; demand++) {
            grammar.setRank(demand, demand);
        }
        due.answers("whatever the ranks are", 4, grammar::tongues);
        ranksAre("tongues changes no ranks", grammar, 0, 1, 2);
        grammar.withdraw(0);
        due.answers("2 is told apart by 12 as well", 4, grammar::tongues);
        grammar.withdraw(1);
        due.answers("12 alone", 4, grammar::tongues);
        grammar.withdraw(0);
        due.answers("without pairs again", 1, grammar::tongues);
        grammar.teach(1, 1);
        due.answers("1 alone: itself, or 3", 2, grammar::tongues);
        grammar.teach(12, 12);
        due.answers("1 and 12", 4, grammar::tongues);
        grammar.withdraw(1);
        due.answers("1 alone again", 2, grammar::tongues);
    }

    private void promise21Edges() {
        RankedGrammar grammar = new RankedGrammar();
        grammar.teach(12, 12);
        due.answers("without demands", 1, grammar::tongues);
        grammar.addKeeper(0);
        due.answers("one demand", 1, grammar::tongues);
        grammar.addKeeper(0);
        due.answers("the same demand again", 1, grammar::tongues);
        grammar.withdraw(0);
        Grammars.avoid(grammar, 1);
        due.answers("without pairs", 1, grammar::tongues);
        grammar.teach(3, 1);
        due.answers("a form that all agree on", 1, grammar::tongues);
        grammar.teach(1, 3);
        due.answers("a form that they do not", 2, grammar::tongues);
    }

    private void promise21AllOrders() {
        RankedGrammar grammar = new RankedGrammar();
        for (int demand = 0; demand < 6; demand++) {
            grammar.addAutomaton(4);
            for (int letter = 1; letter <= 3; letter++) {
                grammar.setArrow(demand, 0, letter, letter == 1 + demand % 3 ? 1 : 2, 1);
                grammar.setArrow(demand, 1, letter, 3, letter == 1 + demand / 3 ? 0 : 2);
            }
        }
        grammar.teach(11, 11);
        due.answers("each demand calls for one word", 6, grammar::tongues);
        due.answers("11", true, () -> grammar.canWin(11, 11));
        due.answers("13", false, () -> grammar.canWin(11, 13));
        due.answers("unexplained", 0, grammar::unexplained);
        due.answers("isLearnable", true, grammar::isLearnable);
    }

    /** One order must give the winners of all forms: each form alone has fewer tongues. */
    private void promise21FormsTogether() {
        RankedGrammar grammar = Grammars.avoidersRoundKeeper();
        grammar.teach(1, 1);
        due.answers("1: itself, or 3", 2, grammar::tongues);
        grammar.teach(2, 2);
        due.answers("2: itself, or 3, whatever 1 is", 4, grammar::tongues);
        grammar.teach(3, 3);
        due.answers("3 is always the best", 4, grammar::tongues);
        due.answers("1 of 1 and 2 of 2", true, grammar::isLearnable);
        Grammars.avoid(grammar, 3);
        due.answers("all kept, 6 with one avoider above keep, 3 with more", 10, grammar::tongues);
    }
}
