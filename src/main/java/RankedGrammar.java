import java.util.Arrays;

/** A workshop of grammars by ranked demands; README.md tells how it is used. */
public final class RankedGrammar {
    public static final int NONE = -1;

    private static final int MOST_DEMANDS = 6;
    private static final int MOST_RANK = 5;
    private static final int MOST_STATES = 4;
    private static final int MOST_BREACHES = 3;
    private static final int MOST_PAIRS = 10;
    private static final int LETTERS = 3;
    private static final int MOST_DIGITS = 5;
    private static final int MOST_CANDIDATES = 243;
    private static final int MOST_ORDERS = 720;

    private final Demands demands = new Demands();
    private final Pairs pairs = new Pairs();
    private final Contest contest = new Contest();
    private final Survey survey = new Survey();
    private final Learner learner = new Learner();

    public RankedGrammar() {
    }

    // ---- demands

    public int addAutomaton(int states) throws IllegalArgumentException, IllegalStateException {
        if (states < 1 || states > MOST_STATES) {
            throw new IllegalArgumentException("states are 1 to 4");
        }
        checkRoomForDemand();
        return demands.add(new Automaton(states));
    }

    public int addKeeper(int letter) throws IllegalArgumentException, IllegalStateException {
        if (letter < 0 || letter > LETTERS) {
            throw new IllegalArgumentException("a keeper's letter is 0 to 3");
        }
        checkRoomForDemand();
        return demands.add(new Keeper(letter));
    }

    public void setArrow(int demand, int state, int letter, int to, int breaches)
            throws IndexOutOfBoundsException, IllegalArgumentException, IllegalStateException {
        Demand changed = demandAt(demand);
        if (changed.lacksState(state) || changed.lacksState(to)) {
            throw new IndexOutOfBoundsException("no such state");
        }
        if (letter < 1 || letter > LETTERS) {
            throw new IllegalArgumentException("a letter is 1 to 3");
        }
        checkBreaches(breaches);
        if (changed instanceof Automaton automaton) {
            automaton.pointArrow(state, letter, to, breaches);
        } else {
            throw new IllegalStateException("a keeper has no arrows");
        }
    }

    public int setEnd(int demand, int state, int breaches)
            throws IndexOutOfBoundsException, IllegalArgumentException, IllegalStateException {
        Demand changed = demandAt(demand);
        if (changed.lacksState(state)) {
            throw new IndexOutOfBoundsException("no such state");
        }
        checkBreaches(breaches);
        if (changed instanceof Automaton automaton) {
            return automaton.changeEnd(state, breaches);
        }
        throw new IllegalStateException("a keeper has no states");
    }

    public int setRank(int demand, int rank)
            throws IndexOutOfBoundsException, IllegalArgumentException {
        int before = demandAt(demand).rank;
        if (rank < 0 || rank > MOST_RANK) {
            throw new IllegalArgumentException("a rank is 0 to 5");
        }
        demands.putRank(demand, rank);
        return before;
    }

    public int demands() {
        return demands.count;
    }

    public int rankOf(int demand) throws IndexOutOfBoundsException {
        return demandAt(demand).rank;
    }

    public int breaches(int demand, int form, int candidate)
            throws IndexOutOfBoundsException, IllegalArgumentException {
        Demand counting = demandAt(demand);
        int formIndex = wordAt(form);
        return counting.countBreaches(formIndex, candidateAt(formIndex, candidate));
    }

    // ---- winners

    public int candidates(int form) throws IllegalArgumentException {
        return Words.alike(wordAt(form));
    }

    public int winners(int form) throws IllegalArgumentException {
        contest.hold(demands, wordAt(form), true);
        return contest.countBest();
    }

    public int winnerAt(int form, int place)
            throws IndexOutOfBoundsException, IllegalArgumentException {
        if (place < 0) {
            throw new IndexOutOfBoundsException("a place is 0 or more");
        }
        contest.hold(demands, wordAt(form), true);
        int winner = contest.bestAt(place);
        if (winner == NONE) {
            throw new IndexOutOfBoundsException("the form does not have so many winners");
        }
        return Words.numberOf(winner);
    }

    public boolean isWinner(int form, int candidate) throws IllegalArgumentException {
        return isAmongBest(form, candidate, true);
    }

    public boolean canWin(int form, int candidate) throws IllegalArgumentException {
        return isAmongBest(form, candidate, false);
    }

    // ---- pairs and learning

    public int teach(int form, int winner) throws IllegalArgumentException, IllegalStateException {
        int formIndex = wordAt(form);
        int winnerIndex = candidateAt(formIndex, winner);
        if (pairs.count >= MOST_PAIRS) {
            throw new IllegalStateException("there are 10 pairs");
        }
        return pairs.add(formIndex, winnerIndex);
    }

    public int withdraw(int pair) throws IndexOutOfBoundsException {
        if (pair < 0 || pair >= pairs.count) {
            throw new IndexOutOfBoundsException("no such pair");
        }
        pairs.remove(pair);
        return pairs.count;
    }

    public int pairs() {
        return pairs.count;
    }

    public int learn() {
        int ranksGiven = learner.run(demands, pairs);
        if (ranksGiven != NONE) {
            learner.handOutRanks(demands);
        }
        return ranksGiven;
    }

    public boolean isLearnable() {
        survey.take(contest, demands, pairs);
        return survey.someOrderSuits();
    }

    public int unexplained() {
        learner.run(demands, pairs);
        return learner.countLeft();
    }

    public int tongues() {
        survey.take(contest, demands, pairs);
        return survey.countTongues();
    }

    // ---- what several calls test or ask

    private Demand demandAt(int demand) {
        Demand found = demands.find(demand);
        if (found == null) {
            throw new IndexOutOfBoundsException("no such demand");
        }
        return found;
    }

    private void checkRoomForDemand() {
        if (demands.count >= MOST_DEMANDS) {
            throw new IllegalStateException("there are 6 demands");
        }
    }

    private static void checkBreaches(int breaches) {
        if (breaches < 0 || breaches > MOST_BREACHES) {
            throw new IllegalArgumentException("breaches are 0 to 3");
        }
    }

    private static int wordAt(int number) {
        int index = Words.indexOf(number);
        if (index == NONE) {
            throw new IllegalArgumentException("no word");
        }
        return index;
    }

    private static int candidateAt(int formIndex, int candidate) {
        int index = wordAt(candidate);
        if (Words.alike(index) != Words.alike(formIndex)) {
            throw new IllegalArgumentException("no candidate of the form");
        }
        return index;
    }

    private boolean isAmongBest(int form, int candidate, boolean byRanks) {
        int formIndex = wordAt(form);
        int index = candidateAt(formIndex, candidate);
        contest.hold(demands, formIndex, byRanks);
        return contest.isBest(index);
    }

    /**
     * Words by index: the empty word is 0, and the word w with the letter x behind it is 3 w + x.
     * So all words of one length stand in a row, in the order of their numbers.
     */
    private static final class Words {
        /** How many indices there are, the empty word's too. */
        static final int ALL = 364;

        private Words() {
        }

        /** NONE if the number is no word. */
        static int indexOf(int number) {
            int index = 0;
            int weight = 1;
            int rest = number;
            for (int place = 0; place < MOST_DIGITS && rest > 0; place++) {
                int digit = rest % 10;
                if (digit < 1 || digit > LETTERS) {
                    return NONE;
                }
                index += digit * weight;
                weight *= LETTERS;
                rest /= 10;
            }
            return rest == 0 && index > 0 ? index : NONE;
        }

        static int numberOf(int index) {
            int number = 0;
            int weight = 1;
            int rest = index;
            for (int place = 0; place < MOST_DIGITS && rest > 0; place++) {
                number += lastLetter(rest) * weight;
                weight *= 10;
                rest = withoutLast(rest);
            }
            return number;
        }

        static int lastLetter(int index) {
            return (index - 1) % LETTERS + 1;
        }

        static int withoutLast(int index) {
            return (index - 1) / LETTERS;
        }

        /** How many words are as long as this one. */
        static int alike(int index) {
            int many = LETTERS;
            for (int length = 1; length < MOST_DIGITS && index >= firstOf(many) + many; length++) {
                many *= LETTERS;
            }
            return many;
        }

        /** The first word of a length of which there are so many words. */
        static int firstOf(int many) {
            return (many - 1) / 2;
        }
    }

    private abstract static class Demand {
        int rank;

        abstract int countBreaches(int form, int candidate);

        /** Tells whether this is an automaton without such a state. */
        abstract boolean lacksState(int state);
    }

    private static final class Automaton extends Demand {
        private final int states;
        private final int[] arrowTo = new int[MOST_STATES * LETTERS];
        private final int[] arrowBreaches = new int[MOST_STATES * LETTERS];
        private final int[] endBreaches = new int[MOST_STATES];
        // A contest asks for all words of a length: so all are read once, when an arrow changes.
        private final int[] stateAfter = new int[Words.ALL];
        private final int[] breachesAfter = new int[Words.ALL];

        Automaton(int states) {
            this.states = states;
        }

        void pointArrow(int state, int letter, int to, int breaches) {
            int arrow = arrowOf(state, letter);
            arrowTo[arrow] = to;
            arrowBreaches[arrow] = breaches;
            readAllWords();
        }

        int changeEnd(int state, int breaches) {
            int before = endBreaches[state];
            endBreaches[state] = breaches;
            return before;
        }

        int countBreaches(int form, int candidate) {
            return breachesAfter[candidate] + endBreaches[stateAfter[candidate]];
        }

        boolean lacksState(int state) {
            return state < 0 || state >= states;
        }

        private void readAllWords() {
            for (int word = 1; word < Words.ALL; word++) {
                int before = Words.withoutLast(word);
                int arrow = arrowOf(stateAfter[before], Words.lastLetter(word));
                stateAfter[word] = arrowTo[arrow];
                breachesAfter[word] = breachesAfter[before] + arrowBreaches[arrow];
            }
        }

        private static int arrowOf(int state, int letter) {
            return state * LETTERS + letter - 1;
        }
    }

    private static final class Keeper extends Demand {
        private final int letter;

        Keeper(int letter) {
            this.letter = letter;
        }

        int countBreaches(int form, int candidate) {
            int found = 0;
            int meant = form;
            int got = candidate;
            for (int place = 0; place < MOST_DIGITS && meant > 0 && got > 0; place++) {
                int kept = Words.lastLetter(meant);
                if ((letter == 0 || letter == kept) && Words.lastLetter(got) != kept) {
                    found++;
                }
                meant = Words.withoutLast(meant);
                got = Words.withoutLast(got);
            }
            return found;
        }

        boolean lacksState(int state) {
            return false;
        }
    }

    private static final class Demands {
        // A word has at most 5 * 3 + 3 breaches of a demand, so five bits hold them.
        static final int MASK = 31;
        private static final int BITS = 5;

        int count;
        private final Demand[] list = new Demand[MOST_DEMANDS];

        int add(Demand added) {
            if (count < MOST_DEMANDS) {
                list[count] = added;
                count++;
            }
            return count - 1;
        }

        /** Null if there is no such demand. */
        Demand find(int demand) {
            return demand >= 0 && demand < count ? list[demand] : null;
        }

        int rankAt(int demand) {
            Demand ranked = find(demand);
            return ranked == null ? 0 : ranked.rank;
        }

        void putRank(int demand, int rank) {
            Demand ranked = find(demand);
            if (ranked != null) {
                ranked.rank = rank;
            }
        }

        /** The breaches of all demands, in one number. */
        int profileOf(int form, int candidate) {
            int profile = 0;
            for (int demand = 0; demand < count; demand++) {
                Demand counting = find(demand);
                if (counting != null) {
                    profile |= counting.countBreaches(form, candidate) << demand * BITS;
                }
            }
            return profile;
        }

        static int breachesIn(int profile, int demand) {
            return profile >> demand * BITS & MASK;
        }
    }

    private static final class Pairs {
        final int[] forms = new int[MOST_PAIRS];
        final int[] words = new int[MOST_PAIRS];
        int count;

        int add(int form, int word) {
            if (count < MOST_PAIRS) {
                forms[count] = form;
                words[count] = word;
                count++;
            }
            return count - 1;
        }

        void remove(int pair) {
            for (int next = pair + 1; next < count; next++) {
                forms[next - 1] = forms[next];
                words[next - 1] = words[next];
            }
            count--;
        }
    }

    /**
     * The candidates of one form, compared by full orders. Candidates with the same breaches of
     * all demands are of one kind; by each full order just one kind is the best.
     */
    private static final class Contest {
        private static final int[] FACTORIALS = {1, 1, 2, 6, 24, 120, 720};

        private final int[] kindOfPlace = new int[MOST_CANDIDATES];
        private final int[] profileOfKind = new int[MOST_CANDIDATES];
        private final int[] isBestKind = new int[MOST_CANDIDATES];
        private final int[][] kindsLeft = new int[MOST_DEMANDS + 1][MOST_CANDIDATES];
        private final int[] leftCount = new int[MOST_DEMANDS + 1];
        private final int[] ranks = new int[MOST_DEMANDS];
        private final int[] bestKindByOrder = new int[MOST_ORDERS];
        private int firstCandidate;
        private int candidateCount;
        private int demandCount;
        private int orders;

        /** Without ranks it goes through all orders, in one sequence whatever the form is. */
        void hold(Demands demands, int form, boolean byRanks) {
            demandCount = demands.count;
            for (int demand = 0; demand < demandCount; demand++) {
                ranks[demand] = byRanks ? demands.rankAt(demand) : 0;
            }
            findKinds(demands, form);
            Arrays.fill(isBestKind, 0);
            orders = 0;
            goOn(0, 0);
        }

        int countBest() {
            int found = 0;
            for (int place = 0; place < candidateCount; place++) {
                found += isBestKind[kindOfPlace[place]];
            }
            return found;
        }

        /** NONE if there are not so many best candidates. */
        int bestAt(int wanted) {
            int found = 0;
            for (int place = 0; place < candidateCount; place++) {
                if (isBestKind[kindOfPlace[place]] == 1) {
                    if (found == wanted) {
                        return firstCandidate + place;
                    }
                    found++;
                }
            }
            return NONE;
        }

        boolean isBest(int candidate) {
            return isBestKind[kindOf(candidate)] == 1;
        }

        int kindOf(int candidate) {
            return kindOfPlace[candidate - firstCandidate];
        }

        /** How many orders there are, each with its best kind in the row then. */
        int copyBestKinds(int[] row) {
            System.arraycopy(bestKindByOrder, 0, row, 0, Math.min(orders, row.length));
            return orders;
        }

        private void findKinds(Demands demands, int form) {
            candidateCount = Words.alike(form);
            firstCandidate = Words.firstOf(candidateCount);
            int kinds = 0;
            for (int place = 0; place < candidateCount; place++) {
                int profile = demands.profileOf(form, firstCandidate + place);
                int kind = kindWith(profile, kinds);
                if (kind == kinds) {
                    profileOfKind[kind] = profile;
                    kindsLeft[0][kind] = kind;
                    kinds++;
                }
                kindOfPlace[place] = kind;
            }
            leftCount[0] = kinds;
        }

        /** The number of kinds if none of them has the profile. */
        private int kindWith(int profile, int kinds) {
            for (int kind = 0; kind < kinds; kind++) {
                if (profileOfKind[kind] == profile) {
                    return kind;
                }
            }
            return kinds;
        }

        /** Goes through all orders that begin with the demands placed; depth is their number. */
        private void goOn(int depth, int placed) {
            // One kind stays the best one, however the demands left are ordered.
            if (depth >= demandCount || leftCount[depth] == 1) {
                noteBest(kindsLeft[depth][0], FACTORIALS[demandCount - depth]);
                return;
            }
            int rank = highestRankLeft(placed);
            for (int demand = 0; demand < demandCount; demand++) {
                if ((placed >> demand & 1) == 0 && ranks[demand] == rank) {
                    keepFewest(depth, demand);
                    goOn(depth + 1, placed | 1 << demand);
                }
            }
        }

        private int highestRankLeft(int placed) {
            int highest = MOST_RANK;
            for (int demand = 0; demand < demandCount; demand++) {
                if ((placed >> demand & 1) == 0) {
                    highest = Math.min(highest, ranks[demand]);
                }
            }
            return highest;
        }

        private void keepFewest(int depth, int demand) {
            int fewest = Demands.MASK;
            int kept = 0;
            int[] from = kindsLeft[depth];
            int[] to = kindsLeft[depth + 1];
            for (int place = 0; place < leftCount[depth]; place++) {
                int breaches = Demands.breachesIn(profileOfKind[from[place]], demand);
                if (breaches < fewest) {
                    fewest = breaches;
                    kept = 0;
                }
                if (breaches == fewest) {
                    to[kept] = from[place];
                    kept++;
                }
            }
            leftCount[depth + 1] = kept;
        }

        private void noteBest(int kind, int times) {
            isBestKind[kind] = 1;
            for (int time = 0; time < times && orders < MOST_ORDERS; time++) {
                bestKindByOrder[orders] = kind;
                orders++;
            }
        }
    }

    /** The best kinds of the forms of all pairs, by all orders of all demands. */
    private static final class Survey {
        private final int[][] bestKinds = new int[MOST_PAIRS][MOST_ORDERS];
        private final int[] meantKinds = new int[MOST_PAIRS];
        private final int[] firstOrders = new int[MOST_ORDERS];
        private int pairCount;
        private int orders;

        void take(Contest contest, Demands demands, Pairs pairs) {
            pairCount = pairs.count;
            orders = 1;
            for (int pair = 0; pair < pairCount; pair++) {
                contest.hold(demands, pairs.forms[pair], false);
                orders = contest.copyBestKinds(bestKinds[pair]);
                meantKinds[pair] = contest.kindOf(pairs.words[pair]);
            }
        }

        boolean someOrderSuits() {
            for (int order = 0; order < orders; order++) {
                if (suits(order)) {
                    return true;
                }
            }
            return false;
        }

        int countTongues() {
            int found = 0;
            for (int order = 0; order < orders; order++) {
                if (!isKnown(order, found)) {
                    firstOrders[found] = order;
                    found++;
                }
            }
            return found;
        }

        private boolean suits(int order) {
            for (int pair = 0; pair < pairCount; pair++) {
                if (bestKinds[pair][order] != meantKinds[pair]) {
                    return false;
                }
            }
            return true;
        }

        private boolean isKnown(int order, int known) {
            for (int tongue = 0; tongue < known; tongue++) {
                if (isSameTongue(firstOrders[tongue], order)) {
                    return true;
                }
            }
            return false;
        }

        private boolean isSameTongue(int order, int other) {
            for (int pair = 0; pair < pairCount; pair++) {
                if (bestKinds[pair][order] != bestKinds[pair][other]) {
                    return false;
                }
            }
            return true;
        }
    }

    /** Learns ranks from pairs, and holds what is left unexplained when learning ends. */
    private static final class Learner {
        // Profiles of the candidates to be explained away; NONE for those that are not.
        private final int[][] left = new int[MOST_PAIRS][MOST_CANDIDATES];
        private final int[] leftLength = new int[MOST_PAIRS];
        private final int[] wordProfiles = new int[MOST_PAIRS];
        private final int[] given = new int[MOST_DEMANDS];
        private int pairCount;
        private int demandCount;

        /** How many ranks were given; NONE if the pairs cannot be learned. */
        int run(Demands demands, Pairs pairs) {
            pairCount = pairs.count;
            demandCount = demands.count;
            for (int pair = 0; pair < pairCount; pair++) {
                gather(demands, pairs.forms[pair], pairs.words[pair], pair);
            }
            Arrays.fill(given, NONE);
            int ranked = 0;
            int rank = 0;
            while (ranked < demandCount && rank < MOST_DEMANDS) {
                int more = giveRank(rank);
                if (more == 0) {
                    return NONE;
                }
                ranked += more;
                explainAway(rank);
                rank++;
            }
            return rank;
        }

        void handOutRanks(Demands demands) {
            for (int demand = 0; demand < demandCount; demand++) {
                demands.putRank(demand, given[demand]);
            }
        }

        int countLeft() {
            int found = 0;
            for (int pair = 0; pair < pairCount; pair++) {
                for (int place = 0; place < leftLength[pair]; place++) {
                    if (left[pair][place] != NONE) {
                        found++;
                    }
                }
            }
            return found;
        }

        private void gather(Demands demands, int form, int word, int pair) {
            int wordProfile = demands.profileOf(form, word);
            int length = Words.alike(form);
            int first = Words.firstOf(length);
            for (int place = 0; place < length; place++) {
                int profile = demands.profileOf(form, first + place);
                left[pair][place] = profile == wordProfile ? NONE : profile;
            }
            wordProfiles[pair] = wordProfile;
            leftLength[pair] = length;
        }

        /** How many demands got the rank. */
        private int giveRank(int rank) {
            int more = 0;
            for (int demand = 0; demand < demandCount; demand++) {
                if (given[demand] == NONE && !isAgainstSomeWord(demand)) {
                    given[demand] = rank;
                    more++;
                }
            }
            return more;
        }

        private boolean isAgainstSomeWord(int demand) {
            for (int pair = 0; pair < pairCount; pair++) {
                int ofWord = Demands.breachesIn(wordProfiles[pair], demand);
                for (int place = 0; place < leftLength[pair]; place++) {
                    int profile = left[pair][place];
                    if (profile != NONE && ofWord > Demands.breachesIn(profile, demand)) {
                        return true;
                    }
                }
            }
            return false;
        }

        private void explainAway(int rank) {
            for (int demand = 0; demand < demandCount; demand++) {
                if (given[demand] == rank) {
                    explainAwayBy(demand);
                }
            }
        }

        private void explainAwayBy(int demand) {
            for (int pair = 0; pair < pairCount; pair++) {
                int ofWord = Demands.breachesIn(wordProfiles[pair], demand);
                for (int place = 0; place < leftLength[pair]; place++) {
                    int profile = left[pair][place];
                    if (profile != NONE && Demands.breachesIn(profile, demand) > ofWord) {
                        left[pair][place] = NONE;
                    }
                }
            }
        }
    }
}
