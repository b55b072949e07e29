/** Promise 15: field. */
public final class FieldTest {
    private static final int[] NO_BYTES = {-1, 256, Integer.MIN_VALUE, Integer.MAX_VALUE};

    public static void main(String[] args) {
        ShareShelf shelf = new ShareShelf();
        for (int a = 0; a < 256; a++) {
            for (int b = 0; b < 256; b++) {
                Due.is("field(" + a + ", " + b + ", 0)", shelf.field(a, b, 0), Code.product(a, b));
                if (a != 0) {
                    int factor = shelf.field(a, b, 1);
                    Due.is("a times field(" + a + ", " + b + ", 1)", Code.product(a, factor), b);
                }
            }
        }
        wrongInputs(shelf);
        firstToldIsThrown(shelf);
        Due.end();
    }

    private static void wrongInputs(ShareShelf shelf) {
        for (int what : new int[] {-1, 2, Integer.MIN_VALUE, Integer.MAX_VALUE}) {
            Due.refusesIndex("field(1, 1, " + what + ")", () -> shelf.field(1, 1, what));
        }
        for (int wrong : NO_BYTES) {
            for (int k = 0; k < 2; k++) {
                int what = k;
                String end = ", " + what + ")";
                Due.refusesArgument(
                        "field(" + wrong + ", 1" + end, () -> shelf.field(wrong, 1, what));
                Due.refusesArgument(
                        "field(1, " + wrong + end, () -> shelf.field(1, wrong, what));
                Due.refusesArgument(
                        "field(0, " + wrong + end, () -> shelf.field(0, wrong, what));
            }
        }
        for (int b : new int[] {0, 1, 255}) {
            Due.refusesArgument("field(0, " + b + ", 1)", () -> shelf.field(0, b, 1));
        }
    }

    private static void firstToldIsThrown(ShareShelf shelf) {
        Due.refusesIndex("field(256, -1, 2)", () -> shelf.field(256, -1, 2));
        Due.refusesIndex("field(0, 1, -1)", () -> shelf.field(0, 1, -1));
    }
}
