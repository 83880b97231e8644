/** The document's sentences on ranks, full orders and winners that name a boundary case. */
public final class WinnerEdgesTest {
    private static final int LEAST = Integer.MIN_VALUE;
    private static final int MOST = Integer.MAX_VALUE;

    private final Due due = new Due();

    public static void main(String[] args) {
        WinnerEdgesTest test = new WinnerEdgesTest();
        test.testsOfOrders();
        test.testsOfWinners();
        test.testsOfAnyOrder();
        test.due.end("WinnerEdgesTest");
    }

    private void testsOfOrders() {
        withoutDemandsAllAreWinners();
        withOneDemandTheFewestBreachesWin();
        rank0IsTheHighestOne();
        aHigherRankComesAhead();
        ranksMayLeaveGaps();
        demandsOfOneRankComeInAnyOrder();
        tiedRanksBelowAndAbove();
        oneBreachFewerIsBetter();
        theFirstDemandThatTellsThemApartDecides();
        demandsWithTheSameNumberArePassed();
        candidatesAlikeAreBestTogether();
        aWinnerIsBestBySomeOrder();
    }

    private void testsOfWinners() {
        winnersAreOneToAll();
        placesAre0ToTheLastWinners();
        winnersComeByTheirNumbers();
        placesBelow0WhateverTheFormIs();
        placesOfNoWord();
        isWinnerAtTheEdges();
        changesTellAtOnce();
    }

    private void testsOfAnyOrder() {
        canWinWithoutDemands();
        canWinByOneOf720Orders();
        canWinWhateverTheRanksAre();
        canWinNever();
        eachWinnerCanWin();
    }

    private void winnersAre(RankedGrammar grammar, int form, int... winners) {
        due.answers("winners of " + form, winners.length, () -> grammar.winners(form));
        for (int i = 0; i < winners.length; i++) {
            int place = i;
            due.answers("winnerAt " + form + " " + place, winners[place],
                    () -> grammar.winnerAt(form, place));
            due.answers("isWinner " + form + " " + winners[place], true,
                    () -> grammar.isWinner(form, winners[place]));
        }
        due.throwsBound("behind the last winner of " + form,
                () -> grammar.winnerAt(form, winners.length));
    }

    private static void rank(RankedGrammar grammar, int... ranks) {
        for (int demand = 0; demand < ranks.length; demand++) {
            grammar.setRank(demand, ranks[demand]);
        }
    }

    /** 11111 alone has a breach. */
    private static RankedGrammar allButOne() {
        RankedGrammar grammar = new RankedGrammar();
        grammar.addAutomaton(2);
        for (int letter = 1; letter <= 3; letter++) {
            grammar.setArrow(0, 0, letter, letter == 1 ? 0 : 1, 0);
            grammar.setArrow(0, 1, letter, 1, 0);
        }
        grammar.setEnd(0, 0, 1);
        return grammar;
    }

    // ---- orders

    private void withoutDemandsAllAreWinners() {
        due.sentence("(Without demands all candidates are winners.)");
        RankedGrammar grammar = new RankedGrammar();
        int many = 3;
        int ones = 1;
        for (int digits = 1; digits <= 5; digits++) {
            int all = many;
            int form = ones * 2;
            due.answers("winners", all, () -> grammar.winners(form));
            due.answers("the first", form / 2, () -> grammar.winnerAt(form, 0));
            due.answers("the middle one", form, () -> grammar.winnerAt(form, all / 2));
            due.answers("the last", form / 2 * 3, () -> grammar.winnerAt(form, all - 1));
            due.throwsBound("behind the last", () -> grammar.winnerAt(form, all));
            due.answers("isWinner", true, () -> grammar.isWinner(form, form / 2));
            due.answers("isWinner", true, () -> grammar.isWinner(form, form / 2 * 3));
            many *= 3;
            ones = ones * 10 + 1;
        }
    }

    private void withOneDemandTheFewestBreachesWin() {
        due.sentence("fewer breaches of the first demand, in this order");
        RankedGrammar grammar = new RankedGrammar();
        Grammars.table(grammar, 3, 2, 1, 2, 1, 3, 1, 2, 2);
        for (int rank = 0; rank <= 5; rank++) {
            grammar.setRank(0, rank);
            winnersAre(grammar, 33, 13, 22, 31);
        }
    }

    private void rank0IsTheHighestOne() {
        due.sentence("the rank 0 is the highest one");
        RankedGrammar grammar = new RankedGrammar();
        Grammars.avoid(grammar, 1);
        grammar.addKeeper(0);
        rank(grammar, 0, 1);
        winnersAre(grammar, 1, 2, 3);
        rank(grammar, 0, 5);
        winnersAre(grammar, 1, 2, 3);
        rank(grammar, 1, 0);
        winnersAre(grammar, 1, 1);
        rank(grammar, 5, 0);
        winnersAre(grammar, 1, 1);
    }

    private void aHigherRankComesAhead() {
        due.sentence("a demand with a higher rank always comes ahead of one with a lower rank");
        RankedGrammar grammar = new RankedGrammar();
        Grammars.avoid(grammar, 1);
        grammar.addKeeper(0);
        for (int rank = 0; rank < 5; rank++) {
            rank(grammar, rank, rank + 1);
            winnersAre(grammar, 1, 2, 3);
            rank(grammar, rank + 1, rank);
            winnersAre(grammar, 1, 1);
        }
        rank(grammar, 5, 5);
        winnersAre(grammar, 1, 1, 2, 3);
    }

    private void ranksMayLeaveGaps() {
        due.sentence("Each demand has a rank, 0 to 5");
        RankedGrammar grammar = Grammars.sixRivals();
        rank(grammar, 5, 5, 5, 2, 5, 5);
        winnersAre(grammar, 33, 21);
        rank(grammar, 5, 5, 5, 5, 5, 1);
        winnersAre(grammar, 33, 23);
        rank(grammar, 3, 5, 5, 4, 4, 4);
        winnersAre(grammar, 33, 11);
        rank(grammar, 0, 1, 2, 3, 4, 5);
        winnersAre(grammar, 33, 11);
        rank(grammar, 5, 4, 3, 2, 1, 0);
        winnersAre(grammar, 33, 23);
    }

    private void demandsOfOneRankComeInAnyOrder() {
        due.sentence("demands of one rank can come in any order");
        RankedGrammar grammar = Grammars.sixRivals();
        for (int rank = 0; rank <= 5; rank++) {
            rank(grammar, rank, rank, rank, rank, rank, rank);
            winnersAre(grammar, 33, 11, 12, 13, 21, 22, 23);
        }
    }

    private void tiedRanksBelowAndAbove() {
        due.sentence("demands of one rank can come in any order");
        RankedGrammar grammar = Grammars.sixRivals();
        rank(grammar, 1, 0, 0, 1, 1, 1);
        winnersAre(grammar, 11, 12, 13);
        rank(grammar, 5, 5, 4, 5, 4, 4);
        winnersAre(grammar, 11, 13, 22, 23);
        RankedGrammar below = new RankedGrammar();
        Grammars.table(below, 0, 0, 0, 0, 1, 1, 1, 1, 1);
        Grammars.table(below, 0, 1, 2, 2, 0, 2, 2, 2, 2);
        Grammars.table(below, 2, 1, 0, 2, 2, 0, 2, 2, 2);
        Grammars.table(below, 3, 3, 3, 0, 3, 3, 0, 3, 3);
        rank(below, 0, 1, 1, 1);
        winnersAre(below, 11, 11, 13, 21);
        rank(below, 0, 1, 1, 2);
        winnersAre(below, 11, 11, 13);
        rank(below, 2, 0, 0, 2);
        winnersAre(below, 11, 11, 13);
        rank(below, 1, 1, 1, 0);
        winnersAre(below, 11, 21);
    }

    private void oneBreachFewerIsBetter() {
        due.sentence("a candidate is better than another one if it has fewer breaches");
        for (int fewer = 0; fewer < 3; fewer++) {
            RankedGrammar grammar = new RankedGrammar();
            int more = fewer + 1;
            Grammars.table(grammar, more, more, more, more, fewer, more, more, more, more);
            winnersAre(grammar, 11, 22);
        }
        RankedGrammar most = new RankedGrammar();
        most.addAutomaton(2);
        for (int letter = 1; letter <= 3; letter++) {
            most.setArrow(0, 0, letter, 1, letter == 3 ? 2 : 3);
            most.setArrow(0, 1, letter, 1, 3);
        }
        most.setEnd(0, 1, 3);
        due.answers("17", 17, () -> most.breaches(0, 11111, 31111));
        due.answers("18", 18, () -> most.breaches(0, 11111, 11111));
        due.answers("those with 17", 81, () -> most.winners(11111));
        due.answers("the first of them", 31111, () -> most.winnerAt(11111, 0));
        due.answers("one with 18", false, () -> most.isWinner(11111, 23333));
    }

    private void theFirstDemandThatTellsThemApartDecides() {
        due.sentence("of the first demand, in this order, of which both do not have the same");
        RankedGrammar grammar = new RankedGrammar();
        Grammars.table(grammar, 1, 0, 1, 1, 1, 1, 1, 1, 1);
        for (int demand = 1; demand < 6; demand++) {
            Grammars.table(grammar, 0, 3, 1, 1, 1, 1, 1, 1, 1);
        }
        rank(grammar, 0, 1, 2, 3, 4, 5);
        winnersAre(grammar, 33, 12);
        rank(grammar, 0, 1, 1, 1, 1, 1);
        winnersAre(grammar, 33, 12);
        rank(grammar, 5, 5, 5, 4, 5, 5);
        winnersAre(grammar, 33, 11);
        rank(grammar, 0, 0, 0, 0, 0, 0);
        winnersAre(grammar, 33, 11, 12);
    }

    private void demandsWithTheSameNumberArePassed() {
        due.sentence("of which both do not have the same number");
        for (int last = 0; last < 6; last++) {
            RankedGrammar grammar = new RankedGrammar();
            for (int demand = 0; demand < 6; demand++) {
                int one = demand == last ? 2 : 3;
                Grammars.table(grammar, 3, 3, 3, 3, 3, one, 3, 3, 3);
                grammar.setRank(demand, demand == last ? 5 : demand % 5);
            }
            winnersAre(grammar, 12, 23);
        }
    }

    private void candidatesAlikeAreBestTogether() {
        due.sentence("The best candidates .. are those than which no other one is better");
        RankedGrammar grammar = new RankedGrammar();
        for (int demand = 0; demand < 6; demand++) {
            Grammars.table(grammar, 3, 3, 3, 3, 3, 3, 3, 3, 3);
        }
        winnersAre(grammar, 21, 11, 12, 13, 21, 22, 23, 31, 32, 33);
        RankedGrammar some = new RankedGrammar();
        Grammars.table(some, 1, 0, 1, 1, 1, 1, 0, 1, 1);
        Grammars.table(some, 1, 1, 1, 2, 1, 1, 1, 2, 2);
        winnersAre(some, 21, 12, 31);
    }

    private void aWinnerIsBestBySomeOrder() {
        due.sentence("A winner of a form is .. among the best ones by some full order.");
        RankedGrammar grammar = new RankedGrammar();
        Grammars.table(grammar, 0, 1, 2, 2, 2, 2, 2, 2, 2);
        Grammars.table(grammar, 2, 1, 0, 2, 2, 2, 2, 2, 2);
        winnersAre(grammar, 33, 11, 13);
        due.answers("the one between", false, () -> grammar.isWinner(33, 12));
        due.answers("the one between", false, () -> grammar.canWin(33, 12));
        Grammars.table(grammar, 1, 0, 1, 1, 1, 1, 1, 1, 1);
        winnersAre(grammar, 33, 11, 12, 13);
        grammar.setRank(2, 1);
        winnersAre(grammar, 33, 11, 13);
    }

    // ---- winners

    private void winnersAreOneToAll() {
        due.sentence("Returns how many winners a form has.");
        RankedGrammar keeper = new RankedGrammar();
        keeper.addKeeper(0);
        due.answers("one", 1, () -> keeper.winners(33333));
        due.answers("one", 1, () -> keeper.winners(1));
        RankedGrammar most = allButOne();
        due.answers("all but one", 242, () -> most.winners(33333));
        due.answers("all but one", 2, () -> most.winners(1));
        RankedGrammar all = new RankedGrammar();
        all.addAutomaton(4);
        due.answers("all", 243, () -> all.winners(33333));
        due.answers("all", 3, () -> all.winners(1));
    }

    private void placesAre0ToTheLastWinners() {
        due.sentence("or the form is a word that does not have so many winners");
        RankedGrammar keeper = new RankedGrammar();
        keeper.addKeeper(0);
        placesAre(keeper, 32123, 1, 32123, 32123);
        placesAre(keeper, 2, 1, 2, 2);
        placesAre(allButOne(), 12121, 242, 11112, 33333);
        placesAre(allButOne(), 2, 2, 2, 3);
        placesAre(new RankedGrammar(), 12121, 243, 11111, 33333);
        placesAre(new RankedGrammar(), 12, 9, 11, 33);
    }

    private void placesAre(RankedGrammar grammar, int form, int many, int first, int last) {
        due.answers("winners", many, () -> grammar.winners(form));
        due.answers("place 0", first, () -> grammar.winnerAt(form, 0));
        due.answers("the last winner's place", last, () -> grammar.winnerAt(form, many - 1));
        for (int place : new int[] {LEAST, -2, -1, many, many + 1, 243, 244, MOST}) {
            due.throwsBound("place " + place, () -> grammar.winnerAt(form, place));
        }
    }

    private void winnersComeByTheirNumbers() {
        due.sentence("place: 0 for the winner that is the least number");
        RankedGrammar grammar = allButOne();
        int[] words = Sight.candidatesOf(11111);
        for (int i = 0; i < 242; i++) {
            int place = i;
            due.answers("place " + place, words[place + 1], () -> grammar.winnerAt(11111, place));
        }
        RankedGrammar rivals = new RankedGrammar();
        Grammars.table(rivals, 1, 1, 1, 1, 1, 1, 1, 1, 0);
        Grammars.table(rivals, 0, 1, 1, 1, 1, 1, 1, 1, 1);
        Grammars.table(rivals, 1, 1, 1, 1, 0, 1, 1, 1, 1);
        winnersAre(rivals, 23, 11, 22, 33);
    }

    private void placesBelow0WhateverTheFormIs() {
        due.sentence("if place is below 0 (whatever the form is)");
        RankedGrammar grammar = Grammars.avoiders();
        for (int form : new int[] {1, 12, 33333, 0, 4, -1, 111111, LEAST, MOST}) {
            due.throwsBound("winnerAt " + form, () -> grammar.winnerAt(form, -1));
            due.throwsBound("winnerAt " + form, () -> grammar.winnerAt(form, LEAST));
        }
    }

    private void placesOfNoWord() {
        due.sentence("if form is no word");
        RankedGrammar grammar = Grammars.avoiders();
        for (int form : Grammars.NO_WORDS) {
            for (int place : new int[] {0, 3, 243, MOST}) {
                due.throwsArgument("winnerAt " + form, () -> grammar.winnerAt(form, place));
            }
        }
    }

    private void isWinnerAtTheEdges() {
        due.sentence("Tells whether a candidate is a winner of a form.");
        RankedGrammar grammar = allButOne();
        due.answers("the least candidate", false, () -> grammar.isWinner(22222, 11111));
        due.answers("the one behind it", true, () -> grammar.isWinner(22222, 11112));
        due.answers("the last candidate", true, () -> grammar.isWinner(22222, 33333));
        RankedGrammar keeper = new RankedGrammar();
        keeper.addKeeper(0);
        due.answers("the one ahead", false, () -> keeper.isWinner(22222, 22221));
        due.answers("the only winner", true, () -> keeper.isWinner(22222, 22222));
        due.answers("the one behind", false, () -> keeper.isWinner(22222, 22223));
    }

    private void changesTellAtOnce() {
        due.sentence("Changes an arrow .. Changes the breaches at the end .. Changes the rank");
        RankedGrammar grammar = new RankedGrammar();
        winnersAre(grammar, 1, 1, 2, 3);
        Grammars.avoid(grammar, 1);
        winnersAre(grammar, 1, 2, 3);
        grammar.addKeeper(0);
        winnersAre(grammar, 1, 1, 2, 3);
        grammar.setRank(0, 1);
        winnersAre(grammar, 1, 1);
        grammar.setRank(0, 0);
        grammar.setRank(1, 1);
        winnersAre(grammar, 1, 2, 3);
        grammar.setArrow(0, 0, 1, 0, 0);
        winnersAre(grammar, 1, 1);
        grammar.addAutomaton(2);
        grammar.setArrow(2, 0, 1, 1, 0);
        grammar.setEnd(2, 1, 1);
        winnersAre(grammar, 1, 2, 3);
        grammar.setEnd(2, 1, 0);
        winnersAre(grammar, 1, 1);
    }

    // ---- any order, whatever the ranks are

    private void canWinWithoutDemands() {
        due.sentence("by some order of the demands");
        RankedGrammar grammar = new RankedGrammar();
        for (int word : Sight.candidatesOf(111)) {
            due.answers("canWin " + word, true, () -> grammar.canWin(123, word));
        }
        due.answers("the least", true, () -> grammar.canWin(33333, 11111));
        due.answers("the last", true, () -> grammar.canWin(11111, 33333));
    }

    private void canWinByOneOf720Orders() {
        due.sentence("by some order of the demands");
        RankedGrammar grammar = Grammars.chain();
        due.answers("by one order", true, () -> grammar.canWin(33, 11));
        rank(grammar, 0, 1, 2, 3, 4, 5);
        due.answers("by this one", true, () -> grammar.isWinner(33, 11));
        for (int demand = 0; demand < 5; demand++) {
            rank(grammar, 0, 1, 2, 3, 4, 5);
            grammar.setRank(demand, demand + 1);
            grammar.setRank(demand + 1, demand);
            due.answers("by no other", false, () -> grammar.isWinner(33, 11));
            due.answers("whatever the ranks are", true, () -> grammar.canWin(33, 11));
        }
    }

    private void canWinWhateverTheRanksAre() {
        due.sentence("whatever the ranks are");
        RankedGrammar grammar = Grammars.sixRivals();
        for (int first = 0; first < 6; first++) {
            rank(grammar, 5, 5, 5, 5, 5, 5);
            grammar.setRank(first, 0);
            due.answers("winners", 1, () -> grammar.winners(33));
            for (int word : new int[] {11, 12, 13, 21, 22, 23}) {
                due.answers("canWin " + word, true, () -> grammar.canWin(33, word));
            }
            for (int word : new int[] {31, 32, 33}) {
                due.answers("canWin " + word, false, () -> grammar.canWin(33, word));
            }
        }
    }

    private void canWinNever() {
        due.sentence("Tells whether a candidate is among the best ones of a form by some order");
        RankedGrammar grammar = new RankedGrammar();
        grammar.addKeeper(0);
        due.answers("one demand, best", true, () -> grammar.canWin(2, 2));
        due.answers("one demand, not best", false, () -> grammar.canWin(2, 3));
        for (int demand = 1; demand < 6; demand++) {
            grammar.addKeeper(2);
        }
        due.answers("six demands, best", true, () -> grammar.canWin(2, 2));
        due.answers("six demands, never best", false, () -> grammar.canWin(2, 3));
        due.answers("the least", false, () -> grammar.canWin(22222, 11111));
        due.answers("the last", false, () -> grammar.canWin(22222, 33333));
    }

    private void eachWinnerCanWin() {
        due.sentence("by some order of the demands, whatever the ranks are");
        RankedGrammar grammar = Grammars.avoidersRoundKeeper();
        int[] canWin = {12, 13, 32, 33};
        for (int word : Sight.candidatesOf(12)) {
            boolean wanted = word == 12 || word == 13 || word == 32 || word == 33;
            due.answers("isWinner " + word, wanted, () -> grammar.isWinner(12, word));
            due.answers("canWin " + word, wanted, () -> grammar.canWin(12, word));
        }
        rank(grammar, 2, 0, 1);
        for (int word : canWin) {
            due.answers("isWinner " + word, word == 12, () -> grammar.isWinner(12, word));
            due.answers("canWin " + word, true, () -> grammar.canWin(12, word));
        }
    }
}
