/** The document's sentences on words and candidates: what is a word, and what is just none. */
public final class WordEdgesTest {
    private static final int[] LEAST_WORDS = {1, 11, 111, 1111, 11111};
    private static final int[] LAST_WORDS = {3, 33, 333, 3333, 33333};
    private static final int[] HOW_MANY = {3, 9, 27, 81, 243};

    private final Due due = new Due();

    public static void main(String[] args) {
        WordEdgesTest test = new WordEdgesTest();
        test.aWordHas1To5Digits();
        test.eachDigitIs1Or2Or3();
        test.noWordIsNegative();
        test.noWordComesByWrappingRound();
        test.allNumbersUpTo6Digits();
        test.candidatesHaveAsManyDigits();
        test.candidatesAreAllWordsWithAsManyDigits();
        test.eachCallTakesTheLeastAndTheLastWord();
        test.aCandidateIsNeitherShorterNorLonger();
        test.theFirstDigitComesFirst();
        test.due.end("WordEdgesTest");
    }

    private void isNoWord(int number) {
        RankedGrammar grammar = Grammars.avoiders();
        due.throwsArgument("candidates " + number, () -> grammar.candidates(number));
        due.throwsArgument("winners " + number, () -> grammar.winners(number));
        due.throwsArgument("winnerAt " + number, () -> grammar.winnerAt(number, 0));
        takesNeither(grammar, number, 1);
        takesNeither(grammar, 1, number);
        takesNeither(grammar, number, number);
    }

    private void takesNeither(RankedGrammar grammar, int form, int candidate) {
        String words = form + " " + candidate;
        due.throwsArgument("breaches " + words, () -> grammar.breaches(0, form, candidate));
        due.throwsArgument("isWinner " + words, () -> grammar.isWinner(form, candidate));
        due.throwsArgument("canWin " + words, () -> grammar.canWin(form, candidate));
        due.throwsArgument("teach " + words, () -> grammar.teach(form, candidate));
        due.answers("pairs", 0, grammar::pairs);
    }

    private void aWordHas1To5Digits() {
        due.sentence("A word is a number of 1 to 5 digits");
        RankedGrammar grammar = new RankedGrammar();
        for (int i = 0; i < 5; i++) {
            int form = LEAST_WORDS[i];
            due.answers("candidates " + form, HOW_MANY[i], () -> grammar.candidates(form));
        }
        isNoWord(0);
        isNoWord(111111);
        isNoWord(123123);
        isNoWord(333333);
        isNoWord(1111111);
        isNoWord(1111111111);
    }

    private void eachDigitIs1Or2Or3() {
        due.sentence("each of which is 1, 2 or 3 (the letters)");
        for (int weight = 1; weight <= 10000; weight *= 10) {
            for (int digit : new int[] {4, 5, 9}) {
                isNoWord(22222 + (digit - 2) * weight);
            }
            isNoWord(4 * weight);
        }
        for (int weight = 1; weight <= 1000; weight *= 10) {
            isNoWord(22222 - 2 * weight);
            isNoWord(10 * weight);
            isNoWord(30 * weight);
        }
        isNoWord(101);
        isNoWord(103);
        isNoWord(10);
        isNoWord(34);
        isNoWord(33334);
        isNoWord(11110);
    }

    private void noWordIsNegative() {
        due.sentence("a number of 1 to 5 digits");
        for (int number : new int[] {-1, -3, -11, -123, -33333, Integer.MIN_VALUE}) {
            isNoWord(number);
        }
    }

    private void noWordComesByWrappingRound() {
        due.sentence("a number of 1 to 5 digits");
        for (int word : new int[] {1, 12, 33333}) {
            isNoWord(word + (1 << 16));
            isNoWord(word + (1 << 30));
            isNoWord(word + Integer.MIN_VALUE);
        }
        isNoWord(Integer.MAX_VALUE);
    }

    /** 500 numbers at most are asked of one object, for it is made for 512 calls. */
    private void allNumbersUpTo6Digits() {
        due.sentence("A word is a number of 1 to 5 digits, each of which is 1, 2 or 3");
        RankedGrammar grammar = new RankedGrammar();
        int wrong = 0;
        int words = 0;
        for (int number = -500; number <= 112000; number++) {
            if (number % 500 == 0) {
                grammar = new RankedGrammar();
            }
            RankedGrammar asked = grammar;
            int form = number;
            Object got = Due.outcome(() -> asked.candidates(form));
            String text = Integer.toString(number);
            boolean isWord = text.matches("[123]{1,5}");
            Object want = isWord ? HOW_MANY[text.length() - 1] : "throws.IllegalArgumentException";
            wrong += want.equals(got) ? 0 : 1;
            words += isWord ? 1 : 0;
        }
        int found = words;
        int strange = wrong;
        due.answers("words", 3 + 9 + 27 + 81 + 243, () -> found);
        due.answers("numbers taken wrongly", 0, () -> strange);
    }

    private void candidatesHaveAsManyDigits() {
        due.sentence("The candidates of a form are all words with as many digits");
        RankedGrammar grammar = Grammars.avoiders();
        for (int i = 0; i < 5; i++) {
            int least = LEAST_WORDS[i];
            int last = LAST_WORDS[i];
            due.answers("candidates " + least, HOW_MANY[i], () -> grammar.candidates(least));
            due.answers("candidates " + last, HOW_MANY[i], () -> grammar.candidates(last));
        }
    }

    private void candidatesAreAllWordsWithAsManyDigits() {
        due.sentence("The candidates of a form are all words with as many digits");
        for (int form : new int[] {2, 31, 123, 3113, 22222}) {
            RankedGrammar grammar = new RankedGrammar();
            int[] words = Sight.candidatesOf(form);
            for (int i = 0; i < words.length; i++) {
                int place = i;
                String call = "winnerAt " + form + " " + place;
                due.answers(call, words[i], () -> grammar.winnerAt(form, place));
                due.answers("isWinner", true, () -> grammar.isWinner(form, words[place]));
            }
            due.throwsBound("behind the last", () -> grammar.winnerAt(form, words.length));
        }
    }

    private void eachCallTakesTheLeastAndTheLastWord() {
        due.sentence("form: a form; candidate: a candidate of it");
        for (int i = 0; i < 5; i++) {
            int digits = i + 1;
            takes(LEAST_WORDS[i], LAST_WORDS[i], digits);
            takes(LAST_WORDS[i], LEAST_WORDS[i], digits);
        }
    }

    private void takes(int form, int other, int digits) {
        RankedGrammar grammar = new RankedGrammar();
        grammar.addKeeper(0);
        String words = form + " " + other;
        due.answers("breaches " + words, digits, () -> grammar.breaches(0, form, other));
        due.answers("breaches " + form, 0, () -> grammar.breaches(0, form, form));
        due.answers("winners " + form, 1, () -> grammar.winners(form));
        due.answers("winnerAt " + form, form, () -> grammar.winnerAt(form, 0));
        due.answers("isWinner " + words, false, () -> grammar.isWinner(form, other));
        due.answers("isWinner " + form, true, () -> grammar.isWinner(form, form));
        due.answers("canWin " + words, false, () -> grammar.canWin(form, other));
        due.answers("canWin " + form, true, () -> grammar.canWin(form, form));
        due.answers("teach " + form, 0, () -> grammar.teach(form, form));
        due.answers("learn", 1, grammar::learn);
        due.answers("teach " + words, 1, () -> grammar.teach(form, other));
        due.answers("learn", RankedGrammar.NONE, grammar::learn);
    }

    private void aCandidateIsNeitherShorterNorLonger() {
        due.sentence("or candidate is none of its candidates");
        RankedGrammar grammar = Grammars.avoiders();
        for (int i = 0; i < 5; i++) {
            for (int j = 0; j < 5; j++) {
                if (i != j) {
                    takesNeither(grammar, LEAST_WORDS[i], LEAST_WORDS[j]);
                    takesNeither(grammar, LAST_WORDS[i], LEAST_WORDS[j]);
                    takesNeither(grammar, LEAST_WORDS[i], LAST_WORDS[j]);
                }
            }
        }
    }

    private void theFirstDigitComesFirst() {
        due.sentence("the first digit comes first");
        RankedGrammar grammar = new RankedGrammar();
        grammar.addAutomaton(2);
        for (int letter = 1; letter <= 3; letter++) {
            grammar.setArrow(0, 0, letter, 1, letter);
            grammar.setArrow(0, 1, letter, 1, 0);
        }
        due.answers("1 first", 1, () -> grammar.breaches(0, 11, 13));
        due.answers("3 first", 3, () -> grammar.breaches(0, 11, 31));
        due.answers("2 first", 2, () -> grammar.breaches(0, 11111, 23131));
        due.answers("3 first", 3, () -> grammar.breaches(0, 11111, 32121));
    }
}
