import java.util.LinkedHashMap;
import java.util.Map;

/** Counts and prints the answers that are not the ones that are due, sentence by sentence. */
final class Due {
    interface Call {
        long answer();
    }

    private static final int MOST_LINES = 200;

    private static final Map<String, Integer> askedFor = new LinkedHashMap<>();
    private static String sentence = "";
    private static int asked = 0;
    private static int wrong = 0;

    private Due() {}

    /** From here on the answers speak for these words of the document. */
    static void sentence(String words) {
        sentence = words;
        askedFor.putIfAbsent(words, 0);
    }

    static void is(String call, long got, long due) {
        if (got == due) {
            right();
        } else {
            wrong(call + " answered " + got + ", due is " + due);
        }
    }

    static void is(String call, String got, String due) {
        if (got.equals(due)) {
            right();
        } else {
            wrong(call + " answered " + got + ", due is " + due);
        }
    }

    /** Two looks at all that can be asked are alike. */
    static void same(String when, Map<String, String> got, Map<String, String> due) {
        is("the number of answers " + when, got.size(), due.size());
        for (Map.Entry<String, String> entry : due.entrySet()) {
            String answer = String.valueOf(got.get(entry.getKey()));
            if (answer.equals(entry.getValue())) {
                right();
            } else {
                is(entry.getKey() + " " + when, answer, entry.getValue());
            }
        }
    }

    /** The call throws exactly this exception, not one that extends it. */
    static void refuses(String call, Class<? extends RuntimeException> due, Call body) {
        is(call, answerOf(body), due.getName());
    }

    static void refusesIndex(String call, Call body) {
        refuses(call, IndexOutOfBoundsException.class, body);
    }

    static void refusesState(String call, Call body) {
        refuses(call, IllegalStateException.class, body);
    }

    static void refusesSupport(String call, Call body) {
        refuses(call, UnsupportedOperationException.class, body);
    }

    /** The answer as a text, or the name of what was thrown. */
    static String answerOf(Call body) {
        try {
            return Long.toString(body.answer());
        } catch (RuntimeException e) {
            return e.getClass().getName();
        }
    }

    static void end() {
        for (Map.Entry<String, Integer> entry : askedFor.entrySet()) {
            System.out.println(entry.getKey() + " [" + entry.getValue() + " answers]");
            wrong += entry.getValue() == 0 ? 1 : 0;
        }
        System.out.println(asked + " answers looked at, " + wrong + " not as due");
        System.exit(wrong == 0 && asked > 0 ? 0 : 1);
    }

    private static void right() {
        asked++;
        if (!sentence.isEmpty()) {
            askedFor.merge(sentence, 1, Integer::sum);
        }
    }

    private static void wrong(String text) {
        right();
        wrong++;
        if (wrong <= MOST_LINES) {
            System.out.println((sentence.isEmpty() ? "" : "[" + sentence + "] ") + text);
        }
    }
}
