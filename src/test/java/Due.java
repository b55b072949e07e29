/** Counts and prints the answers that are not the ones that are due. */
final class Due {
    interface Call {
        long answer();
    }

    private static final String NOTHING = "nothing";

    private static int wrong = 0;
    private static int asked = 0;

    private Due() {}

    static void is(String call, long got, long due) {
        note(call + " answered " + got + ", due is " + due, got == due);
    }

    static void is(String call, String got, String due) {
        note(call + " answered " + got + ", due is " + due, got.equals(due));
    }

    /** The call throws exactly this exception, not one that extends it. */
    static void refuses(String call, Class<? extends RuntimeException> due, Call body) {
        String got = thrownBy(body);
        note(call + " throws " + got + ", due is " + due.getName(), got.equals(due.getName()));
    }

    static void refusesIndex(String call, Call body) {
        refuses(call, IndexOutOfBoundsException.class, body);
    }

    static void refusesArgument(String call, Call body) {
        refuses(call, IllegalArgumentException.class, body);
    }

    static void refusesState(String call, Call body) {
        refuses(call, IllegalStateException.class, body);
    }

    static void refusesSupport(String call, Call body) {
        refuses(call, UnsupportedOperationException.class, body);
    }

    /** The answer as a text, or the name of what was thrown. */
    static String answerOf(Call body) {
        try {
            return Long.toString(body.answer());
        } catch (RuntimeException e) {
            return e.getClass().getName();
        }
    }

    static void end() {
        System.out.println(asked + " answers looked at, " + wrong + " not as due");
        System.exit(wrong == 0 && asked > 0 ? 0 : 1);
    }

    private static String thrownBy(Call body) {
        try {
            body.answer();
            return NOTHING;
        } catch (RuntimeException e) {
            return e.getClass().getName();
        }
    }

    private static void note(String text, boolean right) {
        asked++;
        if (!right) {
            wrong++;
            System.out.println(text);
        }
    }
}
