/** Promise 15: field. */
public final class FieldTest {
    private static final int[] NO_BYTES = {-1, 256, 257, Integer.MIN_VALUE, Integer.MAX_VALUE};
    private static final int[] SOME_BYTES = {0, 1, 255};

    public static void main(String[] args) {
        allPairs();
        refusesAnotherWhat();
        refusesWhatIsNoByte();
        refusesToDivideByZero();
        throwsTheFirstTold();
        Due.end();
    }

    private static void allPairs() {
        Due.sentence("Promise 15: A product (what 0), or what a has to be multiplied by to give b "
                + "(1).");
        for (int a = 0; a < 256; a++) {
            Shelf shelf = new Shelf();
            for (int b = 0; b < 256; b++) {
                Due.is("field(" + a + ", " + b + ", 0)", shelf.field(a, b, 0), Code.product(a, b));
                if (a != 0) {
                    int factor = (int) shelf.field(a, b, 1);
                    Due.is("field(" + a + ", " + b + ", 1) is a byte", factor >> 8, 0);
                    Due.is("a times field(" + a + ", " + b + ", 1)", Code.product(a, factor), b);
                }
            }
        }
    }

    private static void refusesAnotherWhat() {
        Due.sentence("Promise 15: IndexOutOfBoundsException, for another what");
        for (int what : new int[] {-1, 2, 3, Integer.MIN_VALUE, Integer.MAX_VALUE}) {
            Refused.index(Refused::busy, "field(1, 1, " + what + ")", s -> s.field(1, 1, what));
        }
    }

    private static void refusesWhatIsNoByte() {
        Due.sentence("Promise 15: IllegalArgumentException, when one is not 0 .. 255");
        for (int wrong : NO_BYTES) {
            for (int k = 0; k < 2; k++) {
                int what = k;
                String end = ", " + what + ")";
                for (int good : SOME_BYTES) {
                    Refused.argument(Shelf::new, "field(" + wrong + ", " + good + end,
                            s -> s.field(wrong, good, what));
                    Refused.argument(Shelf::new, "field(" + good + ", " + wrong + end,
                            s -> s.field(good, wrong, what));
                }
                Refused.argument(Refused::busy, "field(" + wrong + ", " + wrong + end,
                        s -> s.field(wrong, wrong, what));
            }
        }
    }

    private static void refusesToDivideByZero() {
        Due.sentence("Promise 15: or a is 0 (with what 1)");
        for (int b : SOME_BYTES) {
            Refused.argument(Refused::busy, "field(0, " + b + ", 1)", s -> s.field(0, b, 1));
            Due.is("field(0, " + b + ", 0)", new Shelf().field(0, b, 0), 0);
            Due.is("field(" + b + ", 0, 0)", new Shelf().field(b, 0, 0), 0);
        }
        Due.is("field(1, 0, 1)", new Shelf().field(1, 0, 1), 0);
        Due.is("field(255, 0, 1)", new Shelf().field(255, 0, 1), 0);
        Due.is("field(255, 255, 1)", new Shelf().field(255, 255, 1), 1);
    }

    private static void throwsTheFirstTold() {
        Due.sentence("Promise 15: Of several exceptions the first one told is thrown.");
        for (int what : new int[] {-1, 2}) {
            String end = ", " + what + ")";
            Refused.index(Refused::busy, "field(256, 1" + end, s -> s.field(256, 1, what));
            Refused.index(Refused::busy, "field(1, -1" + end, s -> s.field(1, -1, what));
            Refused.index(Refused::busy, "field(0, 1" + end, s -> s.field(0, 1, what));
        }
    }
}
