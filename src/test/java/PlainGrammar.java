import java.util.ArrayList;
import java.util.HashSet;
import java.util.LinkedHashSet;
import java.util.List;
import java.util.Set;

/**
 * The document once more, in the plainest way: words are texts, each full order is written out, and
 * each candidate is compared by it. It shares nothing with RankedGrammar, whose answers it checks.
 */
final class PlainGrammar {
    private static final class Wish {
        boolean keeper;
        int letter;
        int states;
        int[][] to;
        int[][] cost;
        int[] end;
        int rank;
    }

    private record Pair(String form, String word) {
    }

    private final List<Wish> wishes = new ArrayList<>();
    private final List<Pair> taught = new ArrayList<>();

    int addAutomaton(int states) {
        argument(states >= 1 && states <= 4);
        state(wishes.size() < 6);
        Wish wish = new Wish();
        wish.states = states;
        wish.to = new int[states][4];
        wish.cost = new int[states][4];
        wish.end = new int[states];
        wishes.add(wish);
        return wishes.size() - 1;
    }

    int addKeeper(int letter) {
        argument(letter >= 0 && letter <= 3);
        state(wishes.size() < 6);
        Wish wish = new Wish();
        wish.keeper = true;
        wish.letter = letter;
        wishes.add(wish);
        return wishes.size() - 1;
    }

    void setArrow(int demand, int state, int letter, int to, int breaches) {
        index(demand, wishes.size());
        Wish wish = wishes.get(demand);
        if (!wish.keeper) {
            index(state, wish.states);
            index(to, wish.states);
        }
        argument(letter >= 1 && letter <= 3 && breaches >= 0 && breaches <= 3);
        state(!wish.keeper);
        wish.to[state][letter] = to;
        wish.cost[state][letter] = breaches;
    }

    int setEnd(int demand, int state, int breaches) {
        index(demand, wishes.size());
        Wish wish = wishes.get(demand);
        if (!wish.keeper) {
            index(state, wish.states);
        }
        argument(breaches >= 0 && breaches <= 3);
        state(!wish.keeper);
        int before = wish.end[state];
        wish.end[state] = breaches;
        return before;
    }

    int setRank(int demand, int rank) {
        index(demand, wishes.size());
        argument(rank >= 0 && rank <= 5);
        int before = wishes.get(demand).rank;
        wishes.get(demand).rank = rank;
        return before;
    }

    int demands() {
        return wishes.size();
    }

    int rankOf(int demand) {
        index(demand, wishes.size());
        return wishes.get(demand).rank;
    }

    int breaches(int demand, int form, int candidate) {
        index(demand, wishes.size());
        String word = word(form);
        return count(wishes.get(demand), word, candidate(word, candidate));
    }

    int candidates(int form) {
        return allLike(word(form)).size();
    }

    int winners(int form) {
        return best(word(form), true).size();
    }

    int winnerAt(int form, int place) {
        if (place < 0) {
            throw new IndexOutOfBoundsException();
        }
        List<String> winners = best(word(form), true);
        index(place, winners.size());
        return Integer.parseInt(winners.get(place));
    }

    boolean isWinner(int form, int candidate) {
        String word = word(form);
        return best(word, true).contains(candidate(word, candidate));
    }

    boolean canWin(int form, int candidate) {
        String word = word(form);
        return best(word, false).contains(candidate(word, candidate));
    }

    int teach(int form, int winner) {
        String word = word(form);
        Pair pair = new Pair(word, candidate(word, winner));
        state(taught.size() < 10);
        taught.add(pair);
        return taught.size() - 1;
    }

    int withdraw(int pair) {
        index(pair, taught.size());
        taught.remove(pair);
        return taught.size();
    }

    int pairs() {
        return taught.size();
    }

    int learn() {
        int[] given = new int[wishes.size()];
        List<String[]> left = study(given);
        if (!left.isEmpty()) {
            return -1;
        }
        Set<Integer> different = new HashSet<>();
        for (int i = 0; i < given.length; i++) {
            wishes.get(i).rank = given[i];
            different.add(given[i]);
        }
        return different.size();
    }

    boolean isLearnable() {
        for (List<Wish> order : orders(false)) {
            boolean suits = true;
            for (Pair pair : taught) {
                suits &= bestBy(order, pair.form()).contains(pair.word());
            }
            if (suits) {
                return true;
            }
        }
        return false;
    }

    int unexplained() {
        return study(new int[wishes.size()]).size();
    }

    int tongues() {
        Set<List<List<String>>> tongues = new HashSet<>();
        for (List<Wish> order : orders(false)) {
            List<List<String>> tongue = new ArrayList<>();
            for (Pair pair : taught) {
                tongue.add(bestBy(order, pair.form()));
            }
            tongues.add(tongue);
        }
        return tongues.size();
    }

    /** Fills the ranks in; what it gives back is left unexplained: form, word and candidate. */
    private List<String[]> study(int[] given) {
        List<String[]> left = new ArrayList<>();
        for (Pair pair : taught) {
            for (String other : allLike(pair.form())) {
                for (Wish wish : wishes) {
                    if (count(wish, pair.form(), other) != count(wish, pair.form(), pair.word())) {
                        left.add(new String[] {pair.form(), pair.word(), other});
                        break;
                    }
                }
            }
        }
        List<Integer> open = new ArrayList<>();
        for (int i = 0; i < wishes.size(); i++) {
            open.add(i);
        }
        for (int rank = 0; !open.isEmpty(); rank++) {
            List<Integer> now = new ArrayList<>();
            for (int i : open) {
                if (left.stream().noneMatch(row -> excess(wishes.get(i), row) > 0)) {
                    now.add(i);
                }
            }
            if (now.isEmpty() && !left.isEmpty()) {
                return left;
            }
            if (left.isEmpty()) {
                now = new ArrayList<>(open);
            }
            for (int i : now) {
                given[i] = rank;
                left.removeIf(row -> excess(wishes.get(i), row) < 0);
            }
            open.removeAll(now);
        }
        return left;
    }

    /** How many more breaches the word has than the candidate. */
    private static int excess(Wish wish, String[] row) {
        return count(wish, row[0], row[1]) - count(wish, row[0], row[2]);
    }

    private List<String> best(String form, boolean byRanks) {
        Set<String> found = new HashSet<>();
        for (List<Wish> order : orders(byRanks)) {
            found.addAll(bestBy(order, form));
        }
        List<String> sorted = new ArrayList<>(found);
        sorted.sort(null);
        return sorted;
    }

    private static List<String> bestBy(List<Wish> order, String form) {
        List<String> best = new ArrayList<>();
        for (String candidate : allLike(form)) {
            int sign = best.isEmpty() ? 0 : compare(order, form, candidate, best.get(0));
            if (sign < 0) {
                best.clear();
            }
            if (sign <= 0) {
                best.add(candidate);
            }
        }
        return best;
    }

    private static int compare(List<Wish> order, String form, String one, String other) {
        for (Wish wish : order) {
            int more = count(wish, form, one) - count(wish, form, other);
            if (more != 0) {
                return more;
            }
        }
        return 0;
    }

    private List<List<Wish>> orders(boolean byRanks) {
        List<List<Wish>> found = new ArrayList<>();
        extend(new LinkedHashSet<>(), byRanks, found);
        return found;
    }

    private void extend(LinkedHashSet<Wish> begun, boolean byRanks, List<List<Wish>> found) {
        if (begun.size() == wishes.size()) {
            found.add(new ArrayList<>(begun));
        }
        for (Wish next : wishes) {
            boolean fits = !begun.contains(next);
            for (Wish other : wishes) {
                fits &= !byRanks || begun.contains(other) || other.rank >= next.rank;
            }
            if (fits) {
                begun.add(next);
                extend(begun, byRanks, found);
                begun.remove(next);
            }
        }
    }

    private static int count(Wish wish, String form, String candidate) {
        int found = 0;
        int at = 0;
        for (int i = 0; i < candidate.length(); i++) {
            int read = candidate.charAt(i) - '0';
            int meant = form.charAt(i) - '0';
            if (!wish.keeper) {
                found += wish.cost[at][read];
                at = wish.to[at][read];
            } else if ((wish.letter == 0 || wish.letter == meant) && read != meant) {
                found++;
            }
        }
        return wish.keeper ? found : found + wish.end[at];
    }

    private static List<String> allLike(String form) {
        List<String> words = new ArrayList<>(List.of(""));
        for (int i = 0; i < form.length(); i++) {
            List<String> longer = new ArrayList<>();
            for (String word : words) {
                longer.addAll(List.of(word + "1", word + "2", word + "3"));
            }
            words = longer;
        }
        return words;
    }

    private static String word(int number) {
        String text = Integer.toString(number);
        argument(text.matches("[123]{1,5}"));
        return text;
    }

    private static String candidate(String form, int number) {
        String text = word(number);
        argument(text.length() == form.length());
        return text;
    }

    private static void index(int index, int size) {
        if (index < 0 || index >= size) {
            throw new IndexOutOfBoundsException();
        }
    }

    private static void argument(boolean fine) {
        if (!fine) {
            throw new IllegalArgumentException();
        }
    }

    private static void state(boolean fine) {
        if (!fine) {
            throw new IllegalStateException();
        }
    }
}
