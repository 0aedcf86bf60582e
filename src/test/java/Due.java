/** Compares what calls answer with what is due, and tells every difference. */
final class Due {
    private int compared = 0;
    private int wrong = 0;

    /** A call whose answer is a number. */
    interface Call {
        long answer();
    }

    void is(String call, long got, long due) {
        compared++;
        if (got != due) {
            tell(call, String.valueOf(got), String.valueOf(due));
        }
    }

    void is(String call, boolean got, boolean due) {
        compared++;
        if (got != due) {
            tell(call, String.valueOf(got), String.valueOf(due));
        }
    }

    void is(String call, float got, float due) {
        compared++;
        if (Float.floatToIntBits(got) != Float.floatToIntBits(due)) {
            tell(call, String.valueOf(got), String.valueOf(due));
        }
    }

    void is(String call, String got, String due) {
        compared++;
        if (!got.equals(due)) {
            tell(call, got, due);
        }
    }

    void noIndex(String call, Call made) {
        is(call, outcome(made), "throws.IndexOutOfBoundsException");
    }

    void badArgument(String call, Call made) {
        is(call, outcome(made), "throws.IllegalArgumentException");
    }

    void badState(String call, Call made) {
        is(call, outcome(made), "throws.IllegalStateException");
    }

    /**
     * The answer, or what was thrown: its exact class, since what the machine throws is another one,
     * and a word where a class of the library threw it and not Probeweb itself.
     */
    static String outcome(Call made) {
        try {
            return String.valueOf(made.answer());
        } catch (RuntimeException thrown) {
            String where = thrown.getStackTrace()[0].getClassName();
            String thrower = where.startsWith("Probeweb") ? "" : " in " + where;
            return "throws." + thrown.getClass().getSimpleName() + thrower;
        }
    }

    static long number(boolean answer) {
        return answer ? 1 : 0;
    }

    /** Says how it went, and ends the program with 1 if an answer was not the due one. */
    void end() {
        System.out.println(compared + " answers compared, " + wrong + " not as due");
        if (wrong > 0 || compared == 0) {
            System.exit(1);
        }
    }

    private void tell(String call, String got, String due) {
        wrong++;
        System.out.println(call + " answered " + got + ", due is " + due);
    }
}
