/** Grammars that several tests build, and the arguments that they all refuse. */
final class Grammars {
    static final int[] NO_WORDS = {
        Integer.MIN_VALUE, -123, -1, 0, 4, 9, 10, 20, 14, 41, 102, 210, 1114, 11011, 43333, 33334,
        40000, 111111, 333333, 1111111, 1111111111, Integer.MAX_VALUE
    };

    /** A grammar that is made anew for each test that changes it. */
    interface Build {
        RankedGrammar make();
    }

    private Grammars() {
    }

    /** A demand that counts the places with this letter. */
    static int avoid(RankedGrammar grammar, int letter) {
        int demand = grammar.addAutomaton(1);
        grammar.setArrow(demand, 0, letter, 0, 1);
        return demand;
    }

    /** 0: no letter 1; 1: no letter 2; 2: no letter 3. */
    static RankedGrammar avoiders() {
        RankedGrammar grammar = new RankedGrammar();
        for (int letter = 1; letter <= 3; letter++) {
            avoid(grammar, letter);
        }
        return grammar;
    }

    /** 0: no letter 1; 1: stay like the form; 2: no letter 2. */
    static RankedGrammar avoidersRoundKeeper() {
        RankedGrammar grammar = new RankedGrammar();
        avoid(grammar, 1);
        grammar.addKeeper(0);
        avoid(grammar, 2);
        return grammar;
    }

    static RankedGrammar withSixDemands() {
        RankedGrammar grammar = new RankedGrammar();
        for (int i = 0; i < 6; i++) {
            grammar.addKeeper(0);
        }
        return grammar;
    }

    /** A demand with these breaches of the words 11, 12, 13, 21, .. 33, each one 0 to 3. */
    static int table(RankedGrammar grammar, int... breaches) {
        int demand = grammar.addAutomaton(4);
        for (int letter = 1; letter <= 3; letter++) {
            grammar.setArrow(demand, 0, letter, letter, 0);
            for (int second = 1; second <= 3; second++) {
                grammar.setArrow(demand, letter, second, 0, breaches[letter * 3 + second - 4]);
            }
        }
        return demand;
    }

    /**
     * Six demands by which 11 is among the best only if the first one comes first, the second one
     * second, and so on: each explains away the word that has fewer breaches of the next one.
     */
    static RankedGrammar chain() {
        RankedGrammar grammar = new RankedGrammar();
        table(grammar, 0, 1, 0, 0, 0, 0, 0, 0, 0);
        table(grammar, 1, 0, 2, 1, 1, 1, 1, 1, 1);
        table(grammar, 1, 1, 0, 2, 1, 1, 1, 1, 1);
        table(grammar, 1, 1, 1, 0, 2, 1, 1, 1, 1);
        table(grammar, 1, 1, 1, 1, 0, 2, 1, 1, 1);
        table(grammar, 1, 1, 1, 1, 1, 0, 1, 1, 1);
        return grammar;
    }

    /** Six demands, each of which has one word alone without a breach: 11, 12, 13, 21, 22, 23. */
    static RankedGrammar sixRivals() {
        RankedGrammar grammar = new RankedGrammar();
        for (int demand = 0; demand < 6; demand++) {
            int[] breaches = {1, 1, 1, 1, 1, 1, 2, 2, 2};
            breaches[demand] = 0;
            table(grammar, breaches);
        }
        return grammar;
    }

    /** setArrow as a call that answers. */
    static Object arrow(RankedGrammar grammar, int demand, int state, int letter, int to,
            int breaches) {
        grammar.setArrow(demand, state, letter, to, breaches);
        return "set";
    }
}
