/** Compares answers with those that are due, prints what differs, and ends with code 1 then. */
final class Due {
    /** A call whose answer, or exception, is looked at. */
    interface Call {
        Object make();
    }

    private int wrong = 0;
    private int seen = 0;
    private String sentence = "";

    /** The sentence of the document that the next answers are due by. */
    void sentence(String text) {
        sentence = " (" + text + ")";
    }

    void answers(String what, Object want, Call call) {
        Object got = outcome(call);
        seen++;
        if (!want.equals(got)) {
            wrong++;
            System.out.println(what + " answered " + got + ", due is " + want + sentence);
        }
    }

    void throwsBound(String what, Call call) {
        answers(what, "throws.IndexOutOfBoundsException", call);
    }

    void throwsArgument(String what, Call call) {
        answers(what, "throws.IllegalArgumentException", call);
    }

    void throwsState(String what, Call call) {
        answers(what, "throws.IllegalStateException", call);
    }

    /** The answer of a call, or "throws." and the name of its exception. */
    static Object outcome(Call call) {
        try {
            return call.make();
        } catch (RuntimeException e) {
            return "throws." + e.getClass().getSimpleName();
        }
    }

    void end(String test) {
        System.out.println(test + ": " + seen + " answers, " + wrong + " of them not as due");
        if (wrong > 0 || seen == 0) {
            System.exit(1);
        }
    }
}
