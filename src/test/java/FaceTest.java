import java.lang.reflect.Constructor;
import java.lang.reflect.Field;
import java.lang.reflect.Method;
import java.lang.reflect.Modifier;
import java.util.Set;
import java.util.TreeSet;

/** The public face: what the document lists, and nothing else that others can reach. */
public final class FaceTest {
    private static final String INDEX = "IndexOutOfBoundsException";
    private static final String ARGUMENT = "IllegalArgumentException";
    private static final String STATE = "IllegalStateException";

    public static void main(String[] args) {
        Due due = new Due();
        due.answers("the class's modifiers", Modifier.PUBLIC | Modifier.FINAL,
                () -> RankedGrammar.class.getModifiers());
        due.answers("the methods", wantedMethods(), FaceTest::reachableMethods);
        due.answers("the constructors", 1, () -> RankedGrammar.class.getDeclaredConstructors().length);
        for (Constructor<?> made : RankedGrammar.class.getDeclaredConstructors()) {
            due.answers("the constructor", "public RankedGrammar()", made::toString);
        }
        due.answers("the fields", new TreeSet<>(Set.of("public static final int NONE")),
                FaceTest::reachableFields);
        due.answers("NONE", -1, () -> RankedGrammar.NONE);
        due.end("FaceTest");
    }

    private static Set<String> wantedMethods() {
        Set<String> wanted = new TreeSet<>();
        wanted.add(line("int addAutomaton(int)", ARGUMENT, STATE));
        wanted.add(line("int addKeeper(int)", ARGUMENT, STATE));
        wanted.add(line("void setArrow(int,int,int,int,int)", INDEX, ARGUMENT, STATE));
        wanted.add(line("int setEnd(int,int,int)", INDEX, ARGUMENT, STATE));
        wanted.add(line("int setRank(int,int)", INDEX, ARGUMENT));
        wanted.add(line("int demands()"));
        wanted.add(line("int rankOf(int)", INDEX));
        wanted.add(line("int breaches(int,int,int)", INDEX, ARGUMENT));
        wanted.add(line("int candidates(int)", ARGUMENT));
        wanted.add(line("int winners(int)", ARGUMENT));
        wanted.add(line("int winnerAt(int,int)", INDEX, ARGUMENT));
        wanted.add(line("boolean isWinner(int,int)", ARGUMENT));
        wanted.add(line("boolean canWin(int,int)", ARGUMENT));
        wanted.add(line("int teach(int,int)", ARGUMENT, STATE));
        wanted.add(line("int withdraw(int)", INDEX));
        wanted.add(line("int pairs()"));
        wanted.add(line("int learn()"));
        wanted.add(line("boolean isLearnable()"));
        wanted.add(line("int unexplained()"));
        wanted.add(line("int tongues()"));
        return wanted;
    }

    private static String line(String signature, String... exceptions) {
        StringBuilder text = new StringBuilder("public " + signature.replace(" ", " RankedGrammar."));
        for (int i = 0; i < exceptions.length; i++) {
            text.append(i == 0 ? " throws java.lang." : ",java.lang.").append(exceptions[i]);
        }
        return text.toString();
    }

    private static Set<String> reachableMethods() {
        Set<String> found = new TreeSet<>();
        for (Method method : RankedGrammar.class.getDeclaredMethods()) {
            if (!Modifier.isPrivate(method.getModifiers())) {
                found.add(method.toString());
            }
        }
        return found;
    }

    private static Set<String> reachableFields() {
        Set<String> found = new TreeSet<>();
        for (Field field : RankedGrammar.class.getDeclaredFields()) {
            if (!Modifier.isPrivate(field.getModifiers())) {
                found.add(field.toString().replace("RankedGrammar.", ""));
            }
        }
        return found;
    }
}
