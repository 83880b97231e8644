import java.util.Random;

/** Long runs of chosen calls on a RankedGrammar and on a PlainGrammar: all answers are the same. */
public final class ModelTest {
    private static final int[] ODD = {
        Integer.MIN_VALUE, -11, -1, 0, 4, 7, 10, 14, 41, 101, 1234, 111111, 123123, 33333333,
        Integer.MAX_VALUE
    };

    private final Random random;
    private final int digits;
    private final boolean mild;
    private RankedGrammar grammar = new RankedGrammar();
    private PlainGrammar plain = new PlainGrammar();

    private ModelTest(long seed, int digits, boolean mild) {
        random = new Random(seed);
        this.digits = digits;
        this.mild = mild;
    }

    public static void main(String[] args) {
        int wrong = 0;
        for (int run = 0; run < 160; run++) {
            ModelTest test = new ModelTest(run, 1 + run % 3, run % 2 == 0);
            wrong += test.go(run, 160);
        }
        for (int run = 1000; run < 1012; run++) {
            ModelTest test = new ModelTest(run, 4 + run % 2, run % 4 < 2);
            wrong += test.go(run, 50);
        }
        wrong += new ModelTest(0, 5, true).manyTongues();
        System.out.println("ModelTest: " + wrong + " runs not as due");
        if (wrong > 0) {
            System.exit(1);
        }
    }

    /** 1 if an answer is not as due, which ends the run. */
    private int go(int run, int calls) {
        for (int i = 0; i < calls; i++) {
            String text = i < 12 && random.nextInt(3) > 0 ? build() : random.nextInt(3) == 0 ? change() : ask();
            if (!text.isEmpty()) {
                System.out.println("run " + run + ", call " + i + ": " + text);
                return 1;
            }
        }
        return 0;
    }

    /** Ten long forms by which most of the 720 orders are told apart. */
    private int manyTongues() {
        int[][] arrows = {
            {4, 13, 10, 1, 13, 9, 8, 0, 4, 9, 0, 12}, {12, 0, 4, 10, 2, 12, 4, 14, 6, 0, 10, 8},
            {7, 2, 7, 9, 8, 5, 14, 13, 13, 9, 9, 15},
        };
        int[][] ends = {{1, 1, 1, 1}, {2, 1, 1, 1}, {1, 1, 2, 2}};
        int[] forms = {22323, 12132, 3321, 31331, 1111, 13233, 33323, 13311, 2313, 3333};
        String text = "";
        for (int i = 0; i < 3; i++) {
            int letter = i;
            text += both("addKeeper", () -> grammar.addKeeper(letter), () -> plain.addKeeper(letter));
        }
        for (int i = 3; i < 6; i++) {
            text += both("addAutomaton", () -> grammar.addAutomaton(4), () -> plain.addAutomaton(4));
            for (int j = 0; j < 12; j++) {
                int arrow = arrows[i - 3][j];
                grammar.setArrow(i, j / 3, j % 3 + 1, arrow / 4, arrow % 4);
                plain.setArrow(i, j / 3, j % 3 + 1, arrow / 4, arrow % 4);
            }
            for (int state = 0; state < 4; state++) {
                grammar.setEnd(i, state, ends[i - 3][state]);
                plain.setEnd(i, state, ends[i - 3][state]);
            }
        }
        for (int form : forms) {
            text += both("winners", () -> grammar.winners(form), () -> plain.winners(form));
            int word = plain.winnerAt(form, 0);
            text += both("teach", () -> grammar.teach(form, word), () -> plain.teach(form, word));
        }
        text += both("tongues", () -> grammar.tongues(), () -> plain.tongues());
        text += both("tongues", () -> grammar.tongues(), () -> 399);
        text += both("isLearnable", () -> grammar.isLearnable(), () -> plain.isLearnable());
        text += both("unexplained", () -> grammar.unexplained(), () -> plain.unexplained());
        System.out.print(text.isEmpty() ? "" : "many tongues: " + text + "\n");
        return text.isEmpty() ? 0 : 1;
    }

    private String build() {
        switch (random.nextInt(5)) {
            case 0: {
                int letter = near(0, 3);
                return both("addKeeper " + letter, () -> grammar.addKeeper(letter), () -> plain.addKeeper(letter));
            }
            case 1: {
                int states = near(1, 4);
                return both("addAutomaton " + states, () -> grammar.addAutomaton(states),
                        () -> plain.addAutomaton(states));
            }
            default: {
                int demand = near(0, Math.max(0, plain.demands() - 1));
                int state = near(0, 3);
                int letter = near(1, 3);
                int to = near(0, 3);
                int breaches = near(0, 3);
                String call = "setArrow " + demand + " " + state + " " + letter + " " + to + " " + breaches;
                return both(call, () -> {
                    grammar.setArrow(demand, state, letter, to, breaches);
                    return 0;
                }, () -> {
                    plain.setArrow(demand, state, letter, to, breaches);
                    return 0;
                });
            }
        }
    }

    private String change() {
        int demand = near(0, Math.max(0, plain.demands() - 1));
        switch (random.nextInt(8)) {
            case 0:
            case 1:
                return build();
            case 2: {
                int state = near(0, 3);
                int breaches = near(0, 3);
                return both("setEnd " + demand + " " + state + " " + breaches,
                        () -> grammar.setEnd(demand, state, breaches),
                        () -> plain.setEnd(demand, state, breaches));
            }
            case 3:
            case 4: {
                int rank = near(0, 5);
                return both("setRank " + demand + " " + rank, () -> grammar.setRank(demand, rank),
                        () -> plain.setRank(demand, rank));
            }
            case 5: {
                int pair = near(0, Math.max(0, plain.pairs() - 1));
                return both("withdraw " + pair, () -> grammar.withdraw(pair), () -> plain.withdraw(pair));
            }
            case 6:
                return both("learn", () -> grammar.learn(), () -> plain.learn());
            default: {
                int form = form();
                int winner = winnerOf(form);
                return both("teach " + form + " " + winner, () -> grammar.teach(form, winner),
                        () -> plain.teach(form, winner));
            }
        }
    }

    private String ask() {
        int form = form();
        int candidate = candidateOf(form);
        int demand = near(0, Math.max(0, plain.demands() - 1));
        switch (random.nextInt(13)) {
            case 0:
                return both("demands", () -> grammar.demands(), () -> plain.demands());
            case 1:
                return both("rankOf " + demand, () -> grammar.rankOf(demand), () -> plain.rankOf(demand));
            case 2:
                return both("breaches " + demand + " " + form + " " + candidate,
                        () -> grammar.breaches(demand, form, candidate),
                        () -> plain.breaches(demand, form, candidate));
            case 3:
                return both("candidates " + form, () -> grammar.candidates(form), () -> plain.candidates(form));
            case 4:
                return both("winners " + form, () -> grammar.winners(form), () -> plain.winners(form));
            case 5:
            case 6: {
                int place = near(0, 4);
                return both("winnerAt " + form + " " + place, () -> grammar.winnerAt(form, place),
                        () -> plain.winnerAt(form, place));
            }
            case 7:
                return both("isWinner " + form + " " + candidate, () -> grammar.isWinner(form, candidate),
                        () -> plain.isWinner(form, candidate));
            case 8:
                return both("canWin " + form + " " + candidate, () -> grammar.canWin(form, candidate),
                        () -> plain.canWin(form, candidate));
            case 9:
                return both("pairs", () -> grammar.pairs(), () -> plain.pairs());
            case 10:
                return both("isLearnable", () -> grammar.isLearnable(), () -> plain.isLearnable());
            case 11:
                return both("unexplained", () -> grammar.unexplained(), () -> plain.unexplained());
            default:
                return both("tongues", () -> grammar.tongues(), () -> plain.tongues());
        }
    }

    private static String both(String call, Due.Call asked, Due.Call wanted) {
        Object got = Due.outcome(asked);
        Object want = Due.outcome(wanted);
        return got.equals(want) ? "" : call + " answered " + got + ", due is " + want;
    }

    private int near(int from, int to) {
        if (random.nextInt(mild ? 60 : 12) == 0) {
            return random.nextBoolean() ? from - 1 : to + 1;
        }
        if (random.nextInt(200) == 0) {
            return ODD[random.nextInt(ODD.length)];
        }
        return from + random.nextInt(to - from + 1);
    }

    private int form() {
        return random.nextInt(25) == 0 ? ODD[random.nextInt(ODD.length)] : word(1 + random.nextInt(digits));
    }

    private int candidateOf(int form) {
        if (random.nextInt(25) == 0) {
            return form();
        }
        return form < 1 ? 1 : word(Integer.toString(form).length());
    }

    /** Mostly a word that can win, so that learning has a chance. */
    private int winnerOf(int form) {
        if (random.nextInt(4) > 0) {
            Object won = Due.outcome(() -> plain.winnerAt(form, 0));
            if (won instanceof Integer word) {
                return word;
            }
        }
        return candidateOf(form);
    }

    private int word(int length) {
        int number = 0;
        for (int i = 0; i < Math.min(length, 9); i++) {
            number = number * 10 + 1 + random.nextInt(3);
        }
        return number;
    }
}
