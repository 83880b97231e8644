/** The document's sentences on demands that name a boundary case, one test each. */
public final class DemandEdgesTest {
    private static final int LEAST = Integer.MIN_VALUE;
    private static final int MOST = Integer.MAX_VALUE;

    private final Due due = new Due();

    public static void main(String[] args) {
        DemandEdgesTest test = new DemandEdgesTest();
        test.testsOfNumbers();
        test.testsOfAutomata();
        test.testsOfKeepers();
        test.testsOfRanks();
        test.due.end("DemandEdgesTest");
    }

    private void testsOfNumbers() {
        noneIsMinusOne();
        beginsWithoutDemands();
        beginsWithoutPairs();
        demandsAreNumberedFrom0();
        demandsAreAtMost6();
        demandsReturnsHowManyThereAre();
    }

    private void testsOfAutomata() {
        statesAre1To4();
        statesAreNumberedFrom0();
        eachStateAndLetterHasAnArrow();
        lettersOfArrowsAre1To3();
        arrowsHave0To3Breaches();
        endsHave0To3Breaches();
        aWordIsReadFromState0();
        theEndOfTheLastStateAloneCounts();
        theFormDoesNotMatter();
        atFirstAllArrowsLeadTo0();
        atFirstAllBreachesAre0();
        setArrowChangesOneArrow();
        setEndReturnsTheBreachesBefore();
        anArrowMayComeBackToItsState();
        mostBreachesAndNone();
    }

    private void testsOfKeepers() {
        keepersHaveALetterOr0();
        aKeeperCountsPlacesOfItsLetter();
        aKeeperOfAllCountsAllPlaces();
        aKeeperCountsEachPlace();
        anotherLetterThanTheFormAlone();
    }

    private void testsOfRanks() {
        ranksAreAtFirst0();
        ranksAre0To5();
        setRankReturnsTheRankBefore();
        setRankChangesOneDemand();
    }

    // ---- numbers

    private void noneIsMinusOne() {
        due.sentence("NONE = -1: There is none.");
        due.answers("NONE", -1, () -> RankedGrammar.NONE);
    }

    private void beginsWithoutDemands() {
        due.sentence("Begins without demands");
        RankedGrammar grammar = new RankedGrammar();
        due.answers("demands", 0, grammar::demands);
        due.throwsBound("setArrow 0", () -> Grammars.arrow(grammar, 0, 0, 1, 0, 0));
        due.throwsBound("setEnd 0", () -> grammar.setEnd(0, 0, 0));
        due.throwsBound("setRank 0", () -> grammar.setRank(0, 0));
        due.throwsBound("rankOf 0", () -> grammar.rankOf(0));
        due.throwsBound("breaches 0", () -> grammar.breaches(0, 1, 1));
        due.answers("the first one", 0, () -> grammar.addAutomaton(1));
    }

    private void beginsWithoutPairs() {
        due.sentence("Begins without .. pairs");
        RankedGrammar grammar = new RankedGrammar();
        due.answers("pairs", 0, grammar::pairs);
        due.throwsBound("withdraw 0", () -> grammar.withdraw(0));
        due.answers("the first one", 0, () -> grammar.teach(1, 1));
    }

    private void demandsAreNumberedFrom0() {
        due.sentence("Demands are numbered from 0");
        RankedGrammar grammar = new RankedGrammar();
        for (int i = 0; i < 6; i++) {
            int number = i;
            hasNoDemand(grammar, number);
            due.answers("the next one", number,
                    () -> number % 2 == 0 ? grammar.addAutomaton(1) : grammar.addKeeper(0));
            due.answers("rankOf it", 0, () -> grammar.rankOf(number));
            hasNoDemand(grammar, -1);
        }
    }

    private void hasNoDemand(RankedGrammar grammar, int number) {
        due.throwsBound("setArrow " + number, () -> Grammars.arrow(grammar, number, 0, 1, 0, 0));
        due.throwsBound("setEnd " + number, () -> grammar.setEnd(number, 0, 0));
        due.throwsBound("setRank " + number, () -> grammar.setRank(number, 0));
        due.throwsBound("rankOf " + number, () -> grammar.rankOf(number));
        due.throwsBound("breaches " + number, () -> grammar.breaches(number, 1, 1));
    }

    /** As many automata, as many keepers, or as many of both. */
    private void demandsAreAtMost6() {
        due.sentence("Demands are .. at most 6");
        for (int keepers = 0; keepers <= 6; keepers += 3) {
            RankedGrammar grammar = new RankedGrammar();
            for (int i = 0; i < 6; i++) {
                boolean keeper = i < keepers;
                due.answers("one of 6", i,
                        () -> keeper ? grammar.addKeeper(3) : grammar.addAutomaton(4));
            }
            due.throwsState("a seventh automaton", () -> grammar.addAutomaton(1));
            due.throwsState("a seventh automaton", () -> grammar.addAutomaton(4));
            due.throwsState("a seventh keeper", () -> grammar.addKeeper(0));
            due.throwsState("a seventh keeper", () -> grammar.addKeeper(3));
            due.answers("demands", 6, grammar::demands);
            due.answers("the sixth one", 0, () -> grammar.rankOf(5));
            hasNoDemand(grammar, 6);
        }
    }

    private void demandsReturnsHowManyThereAre() {
        due.sentence("Returns how many demands there are.");
        RankedGrammar grammar = new RankedGrammar();
        for (int i = 0; i < 6; i++) {
            due.answers("demands", i, grammar::demands);
            due.throwsArgument("no automaton", () -> grammar.addAutomaton(0));
            due.throwsArgument("no keeper", () -> grammar.addKeeper(4));
            due.answers("demands still", i, grammar::demands);
            grammar.addKeeper(i % 4);
        }
        due.answers("demands", 6, grammar::demands);
    }

    // ---- automata

    private void statesAre1To4() {
        due.sentence("states: 1 to 4");
        RankedGrammar grammar = new RankedGrammar();
        due.throwsArgument("below the least", () -> grammar.addAutomaton(0));
        due.throwsArgument("far below", () -> grammar.addAutomaton(LEAST));
        due.answers("the least", 0, () -> grammar.addAutomaton(1));
        due.answers("the greatest", 1, () -> grammar.addAutomaton(4));
        due.throwsArgument("above the greatest", () -> grammar.addAutomaton(5));
        due.throwsArgument("far above", () -> grammar.addAutomaton(MOST));
        due.answers("two were added", 2, grammar::demands);
    }

    private void statesAreNumberedFrom0() {
        due.sentence("has 1 to 4 states, numbered from 0");
        for (int i = 1; i <= 4; i++) {
            int states = i;
            RankedGrammar grammar = new RankedGrammar();
            grammar.addAutomaton(states);
            for (int j = 0; j < states; j++) {
                int state = j;
                due.answers("from " + state, "set",
                        () -> Grammars.arrow(grammar, 0, state, 1, 0, 0));
                due.answers("to " + state, "set",
                        () -> Grammars.arrow(grammar, 0, 0, 1, state, 0));
                due.answers("end of " + state, 0, () -> grammar.setEnd(0, state, 1));
            }
            for (int state : new int[] {LEAST, -1, states, states + 1, MOST}) {
                due.throwsBound("from " + state,
                        () -> Grammars.arrow(grammar, 0, state, 1, 0, 0));
                due.throwsBound("to " + state, () -> Grammars.arrow(grammar, 0, 0, 1, state, 0));
                due.throwsBound("end of " + state, () -> grammar.setEnd(0, state, 1));
            }
        }
    }

    /** Each of the 12 arrows alone: only the words that take it have its breaches. */
    private void eachStateAndLetterHasAnArrow() {
        due.sentence("for each state and letter an arrow");
        for (int state = 0; state < 4; state++) {
            for (int letter = 1; letter <= 3; letter++) {
                RankedGrammar grammar = spreading();
                grammar.setArrow(0, state, letter, state == 0 ? letter : 0, 3);
                int taken = state * 10 + letter;
                for (int word : Sight.candidatesOf(11)) {
                    boolean takes = word == taken || state == 0 && word / 10 == letter;
                    due.answers("arrow " + taken + ", word " + word, takes ? 3 : 0,
                            () -> grammar.breaches(0, 11, word));
                }
            }
        }
    }

    /** An automaton in which the first letter leads to the state with its number. */
    private static RankedGrammar spreading() {
        RankedGrammar grammar = new RankedGrammar();
        grammar.addAutomaton(4);
        for (int letter = 1; letter <= 3; letter++) {
            grammar.setArrow(0, 0, letter, letter, 0);
        }
        return grammar;
    }

    private void lettersOfArrowsAre1To3() {
        due.sentence("letter: 1 to 3");
        RankedGrammar grammar = new RankedGrammar();
        grammar.addAutomaton(1);
        due.throwsArgument("below the least", () -> Grammars.arrow(grammar, 0, 0, 0, 0, 2));
        due.throwsArgument("far below", () -> Grammars.arrow(grammar, 0, 0, LEAST, 0, 2));
        due.throwsArgument("above the greatest", () -> Grammars.arrow(grammar, 0, 0, 4, 0, 2));
        due.throwsArgument("far above", () -> Grammars.arrow(grammar, 0, 0, MOST, 0, 2));
        due.answers("none was set", 0, () -> grammar.breaches(0, 111, 123));
        due.answers("the least", "set", () -> Grammars.arrow(grammar, 0, 0, 1, 0, 1));
        due.answers("the least", 1, () -> grammar.breaches(0, 111, 123));
        due.answers("the greatest", "set", () -> Grammars.arrow(grammar, 0, 0, 3, 0, 2));
        due.answers("the greatest", 3, () -> grammar.breaches(0, 111, 123));
    }

    private void arrowsHave0To3Breaches() {
        due.sentence("an arrow: to a state, with 0 to 3 breaches");
        RankedGrammar grammar = new RankedGrammar();
        grammar.addAutomaton(1);
        due.answers("the greatest", "set", () -> Grammars.arrow(grammar, 0, 0, 2, 0, 3));
        due.answers("breaches", 3, () -> grammar.breaches(0, 1, 2));
        for (int breaches : new int[] {LEAST, -1, 4, 5, MOST}) {
            due.throwsArgument("with " + breaches,
                    () -> Grammars.arrow(grammar, 0, 0, 2, 0, breaches));
            due.answers("breaches stay", 3, () -> grammar.breaches(0, 1, 2));
        }
        due.answers("the least", "set", () -> Grammars.arrow(grammar, 0, 0, 2, 0, 0));
        due.answers("breaches", 0, () -> grammar.breaches(0, 1, 2));
    }

    private void endsHave0To3Breaches() {
        due.sentence("for each state 0 to 3 breaches at the end");
        RankedGrammar grammar = new RankedGrammar();
        grammar.addAutomaton(4);
        due.answers("the greatest", 0, () -> grammar.setEnd(0, 0, 3));
        due.answers("breaches", 3, () -> grammar.breaches(0, 1, 2));
        for (int breaches : new int[] {LEAST, -1, 4, 5, MOST}) {
            due.throwsArgument("with " + breaches, () -> grammar.setEnd(0, 0, breaches));
            due.throwsArgument("with " + breaches, () -> grammar.setEnd(0, 3, breaches));
            due.answers("breaches stay", 3, () -> grammar.breaches(0, 1, 2));
        }
        due.answers("the last state's stay", 0, () -> grammar.setEnd(0, 3, 3));
        due.answers("the least", 3, () -> grammar.setEnd(0, 0, 0));
        due.answers("breaches", 0, () -> grammar.breaches(0, 1, 2));
    }

    private void aWordIsReadFromState0() {
        due.sentence("beginning in the state 0");
        RankedGrammar grammar = new RankedGrammar();
        grammar.addAutomaton(2);
        grammar.setArrow(0, 0, 1, 1, 1);
        grammar.setArrow(0, 1, 1, 1, 3);
        due.answers("one digit", 1, () -> grammar.breaches(0, 2, 1));
        due.answers("two digits", 4, () -> grammar.breaches(0, 22, 11));
        due.answers("five digits", 13, () -> grammar.breaches(0, 22222, 11111));
        due.answers("each word anew", 1, () -> grammar.breaches(0, 2, 1));
    }

    private void theEndOfTheLastStateAloneCounts() {
        due.sentence("and those at the end of the state in which it ends, are added");
        RankedGrammar grammar = new RankedGrammar();
        grammar.addAutomaton(3);
        grammar.setArrow(0, 0, 1, 1, 0);
        grammar.setArrow(0, 1, 1, 2, 0);
        for (int i = 0; i < 3; i++) {
            grammar.setEnd(0, i, i + 1);
        }
        due.answers("ends in 0", 1, () -> grammar.breaches(0, 1, 3));
        due.answers("ends in 1", 2, () -> grammar.breaches(0, 1, 1));
        due.answers("ends in 2", 3, () -> grammar.breaches(0, 11, 11));
        due.answers("back in 0", 1, () -> grammar.breaches(0, 111, 113));
    }

    private void theFormDoesNotMatter() {
        due.sentence("The form does not matter.");
        RankedGrammar grammar = new RankedGrammar();
        grammar.addAutomaton(2);
        grammar.setArrow(0, 0, 1, 1, 2);
        grammar.setArrow(0, 1, 3, 1, 3);
        grammar.setEnd(0, 1, 1);
        for (int form : Sight.candidatesOf(111)) {
            due.answers("133 of " + form, 9, () -> grammar.breaches(0, form, 133));
            due.answers("222 of " + form, 0, () -> grammar.breaches(0, form, 222));
        }
        for (int form : new int[] {11111, 13333, 22222, 33333}) {
            due.answers("13333 of " + form, 15, () -> grammar.breaches(0, form, 13333));
        }
    }

    /** From each state on each letter: only where the end is 0 the words end without a breach. */
    private void atFirstAllArrowsLeadTo0() {
        due.sentence("At first all arrows lead to the state 0");
        RankedGrammar fresh = new RankedGrammar();
        fresh.addAutomaton(4);
        RankedGrammar grammar = spreading();
        for (int state = 1; state < 4; state++) {
            fresh.setEnd(0, state, 3);
            grammar.setEnd(0, state, state);
        }
        for (int word : new int[] {1, 2, 3}) {
            due.answers("from 0 by " + word, 0, () -> fresh.breaches(0, 1, word));
            due.answers("to " + word, word, () -> grammar.breaches(0, 1, word));
        }
        for (int word : Sight.candidatesOf(11)) {
            due.answers("from another by " + word, 0, () -> grammar.breaches(0, 11, word));
        }
    }

    private void atFirstAllBreachesAre0() {
        due.sentence("At first .. all breaches are 0.");
        for (int states = 1; states <= 4; states++) {
            RankedGrammar grammar = new RankedGrammar();
            grammar.addAutomaton(states);
            for (int word : Sight.candidatesOf(1111)) {
                due.answers(states + " states, " + word, 0, () -> grammar.breaches(0, 1111, word));
            }
            for (int i = 0; i < states; i++) {
                int state = i;
                due.answers("end of " + state, 0, () -> grammar.setEnd(0, state, 0));
            }
        }
    }

    private void setArrowChangesOneArrow() {
        due.sentence("Changes an arrow of an automaton.");
        RankedGrammar grammar = new RankedGrammar();
        grammar.addAutomaton(2);
        grammar.addAutomaton(2);
        grammar.setArrow(0, 0, 3, 1, 1);
        grammar.setArrow(1, 0, 3, 1, 2);
        grammar.setArrow(0, 1, 3, 1, 3);
        due.answers("33 of the first", 4, () -> grammar.breaches(0, 11, 33));
        due.answers("33 of the second", 2, () -> grammar.breaches(1, 11, 33));
        grammar.setArrow(0, 0, 3, 0, 1);
        due.answers("33 of the first then", 2, () -> grammar.breaches(0, 11, 33));
        due.answers("33 of the second still", 2, () -> grammar.breaches(1, 11, 33));
        due.answers("32 of the first", 1, () -> grammar.breaches(0, 11, 32));
        grammar.setArrow(0, 0, 3, 1, 1);
        due.answers("the other state's is as it was", 4, () -> grammar.breaches(0, 11, 33));
    }

    private void setEndReturnsTheBreachesBefore() {
        due.sentence("Returns the breaches before.");
        RankedGrammar grammar = new RankedGrammar();
        grammar.addAutomaton(4);
        grammar.addAutomaton(4);
        for (int i = 0; i < 4; i++) {
            int state = i;
            due.answers("before", 0, () -> grammar.setEnd(0, state, 3));
            due.answers("before", 3, () -> grammar.setEnd(0, state, state));
            due.answers("before", state, () -> grammar.setEnd(0, state, state));
        }
        for (int i = 0; i < 4; i++) {
            int state = i;
            due.answers("the other one's", 0, () -> grammar.setEnd(1, state, 0));
            due.answers("this one's", state, () -> grammar.setEnd(0, state, 0));
        }
    }

    private void anArrowMayComeBackToItsState() {
        due.sentence("to: a state of it, to which the arrow leads then");
        RankedGrammar grammar = new RankedGrammar();
        grammar.addAutomaton(4);
        grammar.setArrow(0, 0, 2, 3, 0);
        grammar.setArrow(0, 3, 2, 3, 1);
        grammar.setEnd(0, 3, 2);
        due.answers("2", 2, () -> grammar.breaches(0, 1, 2));
        due.answers("22", 3, () -> grammar.breaches(0, 11, 22));
        due.answers("22222", 6, () -> grammar.breaches(0, 11111, 22222));
        due.answers("21212", 2, () -> grammar.breaches(0, 11111, 21212));
    }

    private void mostBreachesAndNone() {
        due.sentence("the breaches of the arrows that it takes, and those at the end .. are added");
        RankedGrammar grammar = new RankedGrammar();
        for (int i = 0; i < 6; i++) {
            int demand = i;
            grammar.addAutomaton(1);
            for (int letter = 2; letter <= 3; letter++) {
                grammar.setArrow(demand, 0, letter, 0, 3);
            }
            due.answers("none", 0, () -> grammar.breaches(demand, 33333, 11111));
            grammar.setEnd(demand, 0, 3);
            due.answers("the end alone", 3, () -> grammar.breaches(demand, 33333, 11111));
            due.answers("one digit", 6, () -> grammar.breaches(demand, 1, 3));
            due.answers("five digits", 18, () -> grammar.breaches(demand, 11111, 32323));
        }
        due.answers("11111 alone is the best", 1, () -> grammar.winners(33333));
        due.answers("11111 alone is the best", 11111, () -> grammar.winnerAt(33333, 0));
    }

    // ---- keepers

    private void keepersHaveALetterOr0() {
        due.sentence("letter: 1 to 3; 0 for all letters");
        RankedGrammar grammar = new RankedGrammar();
        due.throwsArgument("below the least", () -> grammar.addKeeper(-1));
        due.throwsArgument("far below", () -> grammar.addKeeper(LEAST));
        due.answers("for all", 0, () -> grammar.addKeeper(0));
        due.answers("the least letter", 1, () -> grammar.addKeeper(1));
        due.answers("the greatest letter", 2, () -> grammar.addKeeper(3));
        due.throwsArgument("above the greatest", () -> grammar.addKeeper(4));
        due.throwsArgument("far above", () -> grammar.addKeeper(MOST));
        due.answers("three were added", 3, grammar::demands);
        int[][] rows = {{1, 2, 1, 1, 0}, {2, 3, 1, 0, 0}, {3, 1, 1, 0, 1}, {3, 3, 0, 0, 0}};
        for (int[] row : rows) {
            for (int i = 0; i < 3; i++) {
                int keeper = i;
                due.answers("keeper " + keeper + ", " + row[0] + " " + row[1], row[2 + keeper],
                        () -> grammar.breaches(keeper, row[0], row[1]));
            }
        }
    }

    private void aKeeperCountsPlacesOfItsLetter() {
        due.sentence("It counts the places at which the form has this letter");
        for (int i = 1; i <= 3; i++) {
            int letter = i;
            int other = letter % 3 + 1;
            RankedGrammar grammar = new RankedGrammar();
            grammar.addKeeper(letter);
            int all = letter * 11111;
            int none = other * 11111;
            due.answers("five places", 5, () -> grammar.breaches(0, all, none));
            due.answers("no place", 0, () -> grammar.breaches(0, none, all));
            due.answers("the first", 1, () -> grammar.breaches(0, none + (letter - other) * 10000,
                    none));
            due.answers("the last", 1, () -> grammar.breaches(0, none + letter - other, none));
            due.answers("all are kept", 0, () -> grammar.breaches(0, all, all));
        }
    }

    private void aKeeperOfAllCountsAllPlaces() {
        due.sentence("(or any)");
        RankedGrammar grammar = new RankedGrammar();
        grammar.addKeeper(0);
        for (int form = 1; form <= 3; form++) {
            int all = form * 11111;
            for (int letter = 1; letter <= 3; letter++) {
                int candidate = letter * 11111;
                int breaches = form == letter ? 0 : 5;
                due.answers("breaches", breaches, () -> grammar.breaches(0, all, candidate));
            }
        }
        due.answers("the first", 1, () -> grammar.breaches(0, 12312, 22312));
        due.answers("the last", 1, () -> grammar.breaches(0, 12312, 12313));
        due.answers("one digit", 1, () -> grammar.breaches(0, 2, 3));
    }

    private void aKeeperCountsEachPlace() {
        due.sentence("It counts the places");
        RankedGrammar grammar = new RankedGrammar();
        grammar.addKeeper(0);
        grammar.addKeeper(2);
        int form = 22222;
        int candidate = form;
        int changed = 0;
        for (int weight = 1; weight <= 10000; weight *= 10) {
            candidate += weight;
            changed++;
            int word = candidate;
            int places = changed;
            due.answers("places", places, () -> grammar.breaches(0, form, word));
            due.answers("places of 2", places, () -> grammar.breaches(1, form, word));
            due.answers("places of 2, round", 0, () -> grammar.breaches(1, 33333, word));
        }
    }

    private void anotherLetterThanTheFormAlone() {
        due.sentence("and the candidate has another one than the form");
        RankedGrammar grammar = new RankedGrammar();
        grammar.addKeeper(0);
        for (int form : Sight.candidatesOf(1)) {
            for (int word : Sight.candidatesOf(1)) {
                due.answers(form + " " + word, form == word ? 0 : 1,
                        () -> grammar.breaches(0, form, word));
            }
        }
        due.answers("the same letters, elsewhere", 3, () -> grammar.breaches(0, 123, 312));
        due.answers("the same letters, elsewhere", 2, () -> grammar.breaches(0, 123, 321));
    }

    // ---- ranks

    private void ranksAreAtFirst0() {
        due.sentence("Each demand has a rank, .. at first 0");
        RankedGrammar grammar = new RankedGrammar();
        for (int i = 0; i < 6; i++) {
            int demand = i;
            boolean keeper = demand % 2 == 1;
            due.answers("add", demand,
                    () -> keeper ? grammar.addKeeper(0) : grammar.addAutomaton(1));
            due.answers("rankOf", 0, () -> grammar.rankOf(demand));
            due.answers("setRank", 0, () -> grammar.setRank(demand, 5));
        }
    }

    private void ranksAre0To5() {
        due.sentence("Each demand has a rank, 0 to 5");
        RankedGrammar grammar = Grammars.withSixDemands();
        for (int i = 0; i <= 5; i += 5) {
            int demand = i;
            due.answers("the greatest", 0, () -> grammar.setRank(demand, 5));
            due.answers("rankOf", 5, () -> grammar.rankOf(demand));
            for (int rank : new int[] {LEAST, -1, 6, 7, MOST}) {
                due.throwsArgument("rank " + rank, () -> grammar.setRank(demand, rank));
                due.answers("rankOf still", 5, () -> grammar.rankOf(demand));
            }
            due.answers("the least", 5, () -> grammar.setRank(demand, 0));
            due.answers("rankOf", 0, () -> grammar.rankOf(demand));
        }
    }

    private void setRankReturnsTheRankBefore() {
        due.sentence("Returns the rank before.");
        RankedGrammar grammar = Grammars.avoidersRoundKeeper();
        int before = 0;
        for (int rank : new int[] {5, 0, 1, 1, 4, 2, 3, 3, 5, 5, 0, 0}) {
            int last = before;
            due.answers("before", last, () -> grammar.setRank(1, rank));
            due.answers("rankOf", rank, () -> grammar.rankOf(1));
            before = rank;
        }
    }

    private void setRankChangesOneDemand() {
        due.sentence("Changes the rank of a demand.");
        RankedGrammar grammar = Grammars.withSixDemands();
        for (int demand = 0; demand < 6; demand++) {
            grammar.setRank(demand, 5 - demand);
        }
        for (int i = 0; i < 6; i++) {
            int demand = i;
            due.answers("rankOf", 5 - demand, () -> grammar.rankOf(demand));
        }
        grammar.setRank(3, 3);
        int[] ranks = {5, 4, 3, 3, 1, 0};
        for (int i = 0; i < 6; i++) {
            int demand = i;
            due.answers("rankOf", ranks[demand], () -> grammar.rankOf(demand));
        }
    }
}
