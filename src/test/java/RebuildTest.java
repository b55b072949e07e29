/** Promise 11: rebuild. */
public final class RebuildTest {
    private static final int ALL = 4095;

    public static void main(String[] args) {
        anyEightRebuildAnyNode();
        allLengths();
        leastSentHelp();
        sentCountsFromObjectToObject();
        onlyWhatIsNeeded();
        stoppedOnesArePassedOver();
        objectsWithoutBytes();
        helpersAreLiveFreshAndOffered();
        nothingIsChangedWhenItThrows();
        wrongInputs();
        firstToldIsThrown();
        Due.end();
    }

    private static ShareShelf emptied(int node, int object, int[] bytes) {
        ShareShelf shelf = new ShareShelf();
        Code.put(shelf, object, bytes);
        shelf.fail(node);
        shelf.back(node, true);
        return shelf;
    }

    private static void anyEightRebuildAnyNode() {
        int[] bytes = Code.someBytes(64, 7);
        for (int node = 0; node < 12; node++) {
            for (int mask = 0; mask <= ALL; mask++) {
                if (Integer.bitCount(mask & ~(1 << node)) == 8) {
                    ShareShelf shelf = emptied(node, 3, bytes);
                    Due.is("rebuild(" + node + ", " + mask + ")", shelf.rebuild(node, mask), 24);
                    Code.dueShare(shelf, node, 3, 1, bytes);
                    dueSent(shelf, mask & ~(1 << node), 3);
                }
            }
        }
    }

    /** The nodes of a mask have sent so many bytes each, the others none. */
    private static void dueSent(ShareShelf shelf, int mask, int bytes) {
        for (int node = 0; node < 12; node++) {
            int due = ((mask >> node) & 1) == 1 ? bytes : 0;
            Due.is("node(" + node + ", 1)", shelf.node(node, 1), due);
        }
    }

    private static void allLengths() {
        for (int length = 1; length <= 240; length++) {
            int[] bytes = Code.someBytes(length, length);
            int node = length % 12;
            ShareShelf shelf = emptied(node, 11, bytes);
            Due.is("rebuild, length " + length,
                    shelf.rebuild(node, ALL), 8 * Code.stripes(length));
            Code.dueShare(shelf, node, 11, 1, bytes);
            Due.is("node(" + node + ", 2)", shelf.node(node, 2), 12);
            shelf.fail((node + 1) % 12);
            Code.dueRead(shelf, 11, ALL, bytes);
        }
    }

    private static void leastSentHelp() {
        ShareShelf shelf = emptied(11, 0, Code.someBytes(31, 1));
        shelf.rebuild(11, ALL);
        dueSent(shelf, 0b0000_1111_1111, 2);
        shelf.fail(0);
        shelf.back(0, true);
        Due.is("rebuild(0, ALL)", shelf.rebuild(0, ALL), 16);
        dueAll(shelf, new int[] {2, 4, 4, 4, 4, 2, 2, 2, 2, 2, 2, 2});
        shelf.fail(8);
        shelf.back(8, true);
        shelf.rebuild(8, ALL);
        dueAll(shelf, new int[] {4, 6, 4, 4, 4, 4, 4, 4, 2, 4, 4, 4});
    }

    private static void dueAll(ShareShelf shelf, int[] due) {
        for (int node = 0; node < 12; node++) {
            Due.is("node(" + node + ", 1)", shelf.node(node, 1), due[node]);
        }
    }

    private static void sentCountsFromObjectToObject() {
        ShareShelf shelf = new ShareShelf();
        Code.put(shelf, 2, Code.someBytes(100, 1));
        Code.put(shelf, 5, Code.someBytes(20, 2));
        Code.put(shelf, 9, Code.someBytes(61, 3));
        shelf.fail(4);
        shelf.back(4, true);
        Due.is("rebuild(4, ALL)", shelf.rebuild(4, ALL), 8 * (4 + 1 + 3));
        // Object 2 by 0-3 and 5-8 (4 each), 5 by 9-11 and 0-3, 5 (1 each), 9 by 9-11 and 6-8, 0, 1.
        dueAll(shelf, new int[] {8, 8, 5, 5, 0, 5, 7, 7, 7, 4, 4, 4});
        Code.dueShare(shelf, 4, 2, 1, Code.someBytes(100, 1));
        Code.dueShare(shelf, 4, 5, 1, Code.someBytes(20, 2));
        Code.dueShare(shelf, 4, 9, 1, Code.someBytes(61, 3));
    }

    private static void onlyWhatIsNeeded() {
        ShareShelf shelf = new ShareShelf();
        int[] bytes = Code.someBytes(240, 1);
        Code.put(shelf, 0, bytes);
        Code.put(shelf, 1, bytes);
        shelf.fail(7);
        int[] other = Code.someBytes(45, 2);
        Code.put(shelf, 1, other);
        shelf.back(7, false);
        Due.is("rebuild(7, ALL)", shelf.rebuild(7, ALL), 16);
        Code.dueShare(shelf, 7, 0, 1, bytes);
        Code.dueShare(shelf, 7, 1, 2, other);
        Due.is("rebuild(7, ALL) again", shelf.rebuild(7, ALL), 0);
        Due.is("rebuild(7, 0)", shelf.rebuild(7, 0), 0);
    }

    private static void stoppedOnesArePassedOver() {
        ShareShelf shelf = new ShareShelf();
        int[] bytes = Code.someBytes(45, 2);
        Code.put(shelf, 0, bytes);
        Code.put(shelf, 1, bytes);
        shelf.cut(3);
        shelf.put(0, 9);
        shelf.fail(7);
        shelf.back(7, true);
        Due.is("rebuild(7, ALL)", shelf.rebuild(7, ALL), 16);
        Code.dueShare(shelf, 7, 0, 0, new int[0]);
        Code.dueShare(shelf, 7, 1, 1, bytes);
        Due.is("rebuild(7, 0)", shelf.rebuild(7, 0), 0);
        Due.is("it stays stopped", shelf.object(0, 2), 1);
        shelf.settle(0);
        Due.is("rebuild(7, ALL)", shelf.rebuild(7, ALL), 16);
        Code.dueShare(shelf, 7, 0, 1, bytes);
    }

    private static void objectsWithoutBytes() {
        ShareShelf shelf = new ShareShelf();
        Code.put(shelf, 6, Code.someBytes(45, 2));
        shelf.fail(3);
        shelf.put(6, 0);
        shelf.back(3, false);
        Due.is("node(3, 2)", shelf.node(3, 2), 11);
        Due.is("rebuild(3, 0)", shelf.rebuild(3, 0), 0);
        Code.dueShare(shelf, 3, 6, 2, new int[0]);
        Due.is("node(3, 2)", shelf.node(3, 2), 12);
        dueSent(shelf, 0, 0);
    }

    private static void helpersAreLiveFreshAndOffered() {
        ShareShelf shelf = new ShareShelf();
        int[] bytes = Code.someBytes(45, 2);
        Code.put(shelf, 0, Code.someBytes(100, 1));
        shelf.fail(0);
        shelf.fail(1);
        Code.put(shelf, 0, bytes);
        shelf.back(0, false);
        Due.refusesSupport("seven and itself", () -> shelf.rebuild(0, 0b0001_1111_1101));
        Due.refusesSupport("an old one, not seen", () -> shelf.rebuild(0, 0b0001_1111_1111));
        shelf.back(1, false);
        Due.refusesSupport("an old one", () -> shelf.rebuild(0, 0b0001_1111_1110));
        Due.is("eight", shelf.rebuild(0, 0b0011_1111_1111), 16);
        Code.dueShare(shelf, 0, 0, 2, bytes);
        dueSent(shelf, 0b0011_1111_1100, 2);
        shelf.fail(2);
        shelf.fail(3);
        shelf.fail(4);
        Due.is("eight live ones", shelf.rebuild(1, ALL), 16);
        dueAll(shelf, new int[] {2, 0, 2, 2, 2, 4, 4, 4, 4, 4, 2, 2});
        shelf.back(2, true);
        shelf.fail(0);
        Due.is("eight others", shelf.rebuild(2, ALL), 16);
        shelf.fail(2);
        shelf.back(2, true);
        shelf.fail(1);
        Due.refusesSupport("seven live ones", () -> shelf.rebuild(2, ALL));
    }

    private static void nothingIsChangedWhenItThrows() {
        ShareShelf shelf = new ShareShelf();
        int[] bytes = Code.someBytes(45, 2);
        Code.put(shelf, 0, bytes);
        shelf.put(1, 0);
        for (int node = 0; node < 3; node++) {
            shelf.fail(node);
        }
        Code.put(shelf, 11, bytes);
        for (int node = 0; node < 3; node++) {
            shelf.back(node, false);
        }
        shelf.fail(3);
        shelf.back(3, true);
        shelf.fail(4);
        Due.refusesSupport("seven for the last one", () -> shelf.rebuild(3, ALL));
        Code.dueShare(shelf, 3, 0, 0, new int[0]);
        Code.dueShare(shelf, 3, 1, 0, new int[0]);
        Code.dueShare(shelf, 3, 11, 0, new int[0]);
        dueSent(shelf, 0, 0);
        shelf.back(4, false);
        Due.is("rebuild(3, ALL)", shelf.rebuild(3, ALL), 32);
        Code.dueShare(shelf, 3, 0, 1, bytes);
        Code.dueShare(shelf, 3, 1, 1, new int[0]);
        Code.dueShare(shelf, 3, 11, 1, bytes);
    }

    private static void wrongInputs() {
        ShareShelf shelf = new ShareShelf();
        for (int node : new int[] {-1, 12, Integer.MIN_VALUE, Integer.MAX_VALUE}) {
            Due.refusesIndex("rebuild(" + node + ", 0)", () -> shelf.rebuild(node, 0));
        }
        for (int mask : new int[] {-1, 4096, 8191, 1 << 30, Integer.MIN_VALUE}) {
            Due.refusesArgument("rebuild(0, " + mask + ")", () -> shelf.rebuild(0, mask));
        }
        shelf.fail(0);
        Due.refusesState("rebuild of a failed one", () -> shelf.rebuild(0, ALL));
    }

    private static void firstToldIsThrown() {
        ShareShelf shelf = emptied(0, 3, Code.someBytes(4, 4));
        Due.refusesSupport("rebuild(0, 0)", () -> shelf.rebuild(0, 0));
        shelf.fail(0);
        Due.refusesState("rebuild(0, 0)", () -> shelf.rebuild(0, 0));
        Due.refusesArgument("rebuild(0, 4096)", () -> shelf.rebuild(0, 4096));
        Due.refusesIndex("rebuild(12, 4096)", () -> shelf.rebuild(12, 4096));
    }
}
