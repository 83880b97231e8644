import java.lang.management.ManagementFactory;

/** The dearest calls, as many as one object is made for, make no rows. */
public final class RoomTest {
    /** A full object takes 112 calls to build, and 512 are promised. */
    private static final int CALLS = 400;
    private static final long MOST_FOR_OBJECT = 100_000;
    private static final long MOST_FOR_CALLS = 100_000;

    public static void main(String[] args) {
        Due due = new Due();
        allocated(RoomTest::fullGrammar);
        due.answers("a full object is small", true,
                () -> allocated(RoomTest::fullGrammar) < MOST_FOR_OBJECT);
        RankedGrammar grammar = fullGrammar();
        dearCalls(fullGrammar());
        due.answers("its calls make next to nothing", true,
                () -> allocated(() -> dearCalls(grammar)) < MOST_FOR_CALLS);
        due.end("RoomTest");
    }

    private static long allocated(Runnable made) {
        com.sun.management.ThreadMXBean meter =
                (com.sun.management.ThreadMXBean) ManagementFactory.getThreadMXBean();
        long thread = Thread.currentThread().getId();
        long before = meter.getThreadAllocatedBytes(thread);
        made.run();
        return meter.getThreadAllocatedBytes(thread) - before;
    }

    /** Six demands and ten long forms that are different for nearly all candidates. */
    private static RankedGrammar fullGrammar() {
        RankedGrammar grammar = new RankedGrammar();
        for (int demand = 0; demand < 6; demand++) {
            grammar.addAutomaton(4);
            for (int state = 0; state < 4; state++) {
                for (int letter = 1; letter <= 3; letter++) {
                    grammar.setArrow(demand, state, letter, (state + letter * (demand + 1)) % 4,
                            (state * letter + demand * (letter + state)) % 4);
                }
                grammar.setEnd(demand, state, (state + demand) % 4);
            }
        }
        for (int pair = 0; pair < 10; pair++) {
            grammar.teach(12321, 11111);
        }
        return grammar;
    }

    private static void dearCalls(RankedGrammar grammar) {
        for (int call = 0; call < CALLS; call++) {
            switch (call % 8) {
                case 0 -> grammar.tongues();
                case 1 -> grammar.isLearnable();
                case 2 -> grammar.unexplained();
                case 3 -> grammar.learn();
                case 4 -> grammar.winners(11111);
                case 5 -> grammar.winnerAt(33333, 0);
                case 6 -> grammar.isWinner(12321, 11111);
                default -> grammar.canWin(12321, 11111);
            }
        }
    }
}
