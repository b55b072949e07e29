import java.util.function.Supplier;

/** Promise 11: rebuild, and what the terms say of rebuilding. */
public final class RebuildTest {
    private static final int ALL = 4095;

    public static void main(String[] args) {
        anyEightRebuildAnyNode();
        everyLengthIsRebuilt();
        stoppedOnesArePassedOver();
        freshOnesArePassedOver();
        helpersAreOfferedLiveFreshAndOthers();
        leastSentHelp();
        sentCountsFromObjectToObject();
        withoutStripesNothingIsSent();
        rebuildRefusesOtherBits();
        rebuildRefusesFailedNodes();
        rebuildRefusesFewerThanEight();
        nothingIsChangedWhenOneObjectLacksHelpers();
        objectsWithoutBytesNeedNoHelpers();
        rebuildThrowsTheFirstTold();
        Due.end();
    }

    private static Shelf emptied(int node, int object, int[] bytes) {
        Shelf shelf = new Shelf();
        Code.put(shelf, object, bytes);
        shelf.fail(node);
        shelf.back(node, true);
        return shelf;
    }

    private static void anyEightRebuildAnyNode() {
        Due.sentence("Promise 11: Rebuilds a node by helpers (bits as for get()): how many bytes "
                + "were sent.");
        int[] bytes = Code.someBytes(64, 7);
        for (int node = 0; node < 12; node++) {
            for (int mask = 0; mask <= ALL; mask++) {
                int others = mask & ~(1 << node);
                if (Integer.bitCount(others) == 8) {
                    Shelf shelf = emptied(node, 3, bytes);
                    Due.is("rebuild(" + node + ", " + mask + ")", shelf.rebuild(node, mask), 24);
                    Code.dueShare(shelf, node, 3, 1, bytes);
                    dueSent(shelf, others, 3);
                }
            }
        }
    }

    /** The nodes of a mask have sent so many bytes each, the others none. */
    private static void dueSent(Shelf shelf, int mask, int bytes) {
        for (int node = 0; node < 12; node++) {
            int due = ((mask >> node) & 1) == 1 ? bytes : 0;
            Due.is("node(" + node + ", 1)", shelf.node(node, 1), due);
        }
    }

    private static void dueSent(Shelf shelf, int[] due) {
        for (int node = 0; node < 12; node++) {
            Due.is("node(" + node + ", 1)", shelf.node(node, 1), due[node]);
        }
    }

    private static void everyLengthIsRebuilt() {
        Due.sentence("Terms: From these the node's share comes, with the newest version and its "
                + "length");
        for (int length = 1; length <= 240; length++) {
            int[] bytes = Code.someBytes(length, length);
            int node = length % 12;
            Shelf shelf = emptied(node, 11, bytes);
            Due.is("rebuild, length " + length,
                    shelf.rebuild(node, ALL), 8 * Code.stripes(length));
            Code.dueShare(shelf, node, 11, 1, bytes);
            Due.is("node(" + node + ", 2)", shelf.node(node, 2), 12);
            Code.dueRead(shelf, 11, fiveFrom(node), bytes);
        }
    }

    /** Five nodes one behind the other, node 0 behind node 11, as a mask. */
    private static int fiveFrom(int node) {
        int mask = 0;
        for (int k = 0; k < 5; k++) {
            mask |= 1 << ((node + k) % 12);
        }
        return mask;
    }

    private static void stoppedOnesArePassedOver() {
        Due.sentence("Terms: (those that are stopped, and those it is fresh for, are passed over)");
        int[] bytes = Code.someBytes(45, 2);
        Shelf shelf = new Shelf();
        Code.put(shelf, 0, bytes);
        Code.put(shelf, 1, bytes);
        shelf.cut(3);
        shelf.put(0, 9);
        shelf.fail(7);
        shelf.back(7, true);
        Due.is("rebuild(7, ALL)", shelf.rebuild(7, ALL), 16);
        Code.dueShare(shelf, 7, 0, 0, new int[0]);
        Code.dueShare(shelf, 7, 1, 1, bytes);
        Due.is("rebuild(7, 0), a stopped one needs no helpers", shelf.rebuild(7, 0), 0);
        Due.is("it stays stopped", shelf.object(0, 2), 1);
        shelf.settle(0);
        Due.is("rebuild(7, ALL)", shelf.rebuild(7, ALL), 16);
        Code.dueShare(shelf, 7, 0, 1, bytes);
    }

    private static void freshOnesArePassedOver() {
        Shelf shelf = new Shelf();
        int[] bytes = Code.someBytes(240, 1);
        int[] other = Code.someBytes(45, 2);
        Code.put(shelf, 0, bytes);
        Code.put(shelf, 1, bytes);
        shelf.fail(7);
        Code.put(shelf, 1, other);
        shelf.back(7, false);
        Due.is("rebuild(7, ALL)", shelf.rebuild(7, ALL), 16);
        Code.dueShare(shelf, 7, 0, 1, bytes);
        Code.dueShare(shelf, 7, 1, 2, other);
        Due.is("rebuild(7, ALL) again", shelf.rebuild(7, ALL), 0);
        Due.is("rebuild(7, 0)", shelf.rebuild(7, 0), 0);
        for (int node = 0; node < 12; node++) {
            if (node != 7) {
                shelf.fail(node);
            }
        }
        Due.is("rebuild(7, ALL) by none", shelf.rebuild(7, ALL), 0);
    }

    /** Nodes 0 and 1 have an old share of object 0, the others are fresh; all are live. */
    private static Shelf twoOld() {
        Shelf shelf = new Shelf();
        Code.put(shelf, 0, Code.someBytes(100, 1));
        shelf.fail(0);
        shelf.fail(1);
        Code.put(shelf, 0, Code.someBytes(45, 2));
        shelf.back(0, false);
        shelf.back(1, false);
        return shelf;
    }

    private static void helpersAreOfferedLiveFreshAndOthers() {
        Due.sentence("Terms: its HELPERS are eight of those that are offered, live, fresh, and not "
                + "itself");
        Supplier<Shelf> failed = () -> {
            Shelf shelf = twoOld();
            shelf.fail(11);
            return shelf;
        };
        Refused.support(RebuildTest::twoOld, "rebuild, seven and itself",
                s -> s.rebuild(0, 0b000111111101));
        Refused.support(RebuildTest::twoOld, "rebuild, seven and an old one",
                s -> s.rebuild(0, 0b000111111110));
        Refused.support(failed, "rebuild, seven and a failed one",
                s -> s.rebuild(0, 0b101111111000));
        Shelf shelf = twoOld();
        Due.is("rebuild, eight, itself and an old one", shelf.rebuild(0, 0b001111111111), 16);
        Code.dueShare(shelf, 0, 0, 2, Code.someBytes(45, 2));
        dueSent(shelf, 0b001111111100, 2);
        shelf.fail(2);
        shelf.fail(3);
        shelf.fail(4);
        Due.is("rebuild, eight of those that are left", shelf.rebuild(1, ALL), 16);
        dueSent(shelf, new int[] {2, 0, 2, 2, 2, 4, 4, 4, 4, 4, 2, 2});
    }

    private static void leastSentHelp() {
        Due.sentence("Terms: those that have SENT the fewest bytes so far, of equal ones the lower "
                + "numbers");
        Shelf shelf = emptied(11, 0, Code.someBytes(31, 1));
        shelf.rebuild(11, ALL);
        dueSent(shelf, 0b000011111111, 2);
        shelf.fail(0);
        shelf.back(0, true);
        Due.is("rebuild(0, ALL)", shelf.rebuild(0, ALL), 16);
        dueSent(shelf, new int[] {2, 4, 4, 4, 4, 2, 2, 2, 2, 2, 2, 2});
        shelf.fail(8);
        shelf.back(8, true);
        shelf.rebuild(8, ALL);
        dueSent(shelf, new int[] {4, 6, 4, 4, 4, 4, 4, 4, 2, 4, 4, 4});
        shelf.fail(8);
        shelf.back(8, true);
        shelf.rebuild(8, 0b011011111111);
        dueSent(shelf, new int[] {6, 6, 6, 6, 6, 6, 6, 6, 2, 6, 4, 4});
    }

    private static void sentCountsFromObjectToObject() {
        Due.sentence("Terms: REBUILDING a node, object by object .. so far");
        Shelf shelf = new Shelf();
        Code.put(shelf, 2, Code.someBytes(100, 1));
        Code.put(shelf, 5, Code.someBytes(20, 2));
        Code.put(shelf, 9, Code.someBytes(61, 3));
        shelf.fail(4);
        shelf.back(4, true);
        Due.is("rebuild(4, ALL)", shelf.rebuild(4, ALL), 8 * (4 + 1 + 3));
        // Object 2 by 0-3 and 5-8 (4 each), 5 by 9-11 and 0-3, 5 (1 each), 9 by 9-11 and 6-8, 0, 1.
        dueSent(shelf, new int[] {8, 8, 5, 5, 0, 5, 7, 7, 7, 4, 4, 4});
        Code.dueShare(shelf, 4, 2, 1, Code.someBytes(100, 1));
        Code.dueShare(shelf, 4, 5, 1, Code.someBytes(20, 2));
        Code.dueShare(shelf, 4, 9, 1, Code.someBytes(61, 3));
    }

    private static void withoutStripesNothingIsSent() {
        Due.sentence("Terms: (without stripes nothing is sent)");
        Shelf shelf = new Shelf();
        Code.put(shelf, 6, Code.someBytes(45, 2));
        shelf.fail(3);
        shelf.put(6, 0);
        shelf.back(3, false);
        Due.is("node(3, 2)", shelf.node(3, 2), 11);
        Due.is("rebuild(3, ALL)", shelf.rebuild(3, ALL), 0);
        Code.dueShare(shelf, 3, 6, 2, new int[0]);
        Due.is("node(3, 2)", shelf.node(3, 2), 12);
        dueSent(shelf, 0, 0);
    }

    private static void rebuildRefusesOtherBits() {
        Due.sentence("Promise 11: IllegalArgumentException, when mask has other bits");
        for (int bit = 12; bit < 32; bit++) {
            int mask = ALL | 1 << bit;
            Refused.argument(Refused::busy, "rebuild(9, " + mask + ")", s -> s.rebuild(9, mask));
        }
        Refused.argument(Refused::busy, "rebuild(9, -1)", s -> s.rebuild(9, -1));
        Refused.argument(Shelf::new, "rebuild(0, 4096), nothing to do", s -> s.rebuild(0, 4096));
        Due.is("rebuild(9, 4095)", Refused.busy().rebuild(9, ALL), 24);
    }

    private static void rebuildRefusesFailedNodes() {
        Due.sentence("Promise 11: IllegalStateException, when it has failed");
        Refused.state(Refused::busy, "rebuild(10, 4095)", s -> s.rebuild(10, ALL));
        for (int k = 0; k < 12; k++) {
            int node = k;
            Shelf shelf = new Shelf();
            shelf.fail(node);
            Due.refusesState("rebuild(" + node + ", 0)", () -> shelf.rebuild(node, 0));
            shelf.back(node, true);
            Due.is("rebuild(" + node + ", 0) when it is back", shelf.rebuild(node, 0), 0);
        }
    }

    private static void rebuildRefusesFewerThanEight() {
        Due.sentence("Promise 11: UnsupportedOperationException, when there are no eight helpers");
        Supplier<Shelf> history = () -> emptied(5, 11, Code.someBytes(1, 1));
        for (int mask : new int[] {0, 1 << 5, 0b1111111100, 0b11111111, 0b111000101111}) {
            Refused.support(history, "rebuild(5, " + mask + ")", s -> s.rebuild(5, mask));
        }
        Due.is("rebuild(5, 511)", history.get().rebuild(5, 0b111111111), 8);
        for (int k = 0; k < 12; k++) {
            int node = k;
            Shelf shelf = emptied(node, 0, Code.someBytes(1, 1));
            for (int other = 1; other < 4; other++) {
                shelf.fail((node + other) % 12);
            }
            shelf.fail((node + 4) % 12);
            Due.refusesSupport("seven live ones", () -> shelf.rebuild(node, ALL));
            shelf.back((node + 4) % 12, false);
            Due.is("eight live ones", shelf.rebuild(node, ALL), 8);
        }
    }

    /** Node 3 is empty; object 0 has nine helpers, 1 has no bytes, and object 11 has the rest. */
    private static Shelf lastObjectLacks(int old) {
        Shelf shelf = new Shelf();
        Code.put(shelf, 0, Code.someBytes(45, 2));
        shelf.put(1, 0);
        for (int node = 0; node < old; node++) {
            shelf.fail(node);
        }
        Code.put(shelf, 11, Code.someBytes(45, 2));
        for (int node = 0; node < old; node++) {
            shelf.back(node, false);
        }
        shelf.fail(3);
        shelf.back(3, true);
        shelf.fail(4);
        return shelf;
    }

    private static void nothingIsChangedWhenOneObjectLacksHelpers() {
        Due.sentence("Promise 11: for some object with bytes (nothing is changed then).");
        Supplier<Shelf> lacks = () -> lastObjectLacks(3);
        Refused.support(lacks, "rebuild(3, 4095), seven for the last one", s -> s.rebuild(3, ALL));
        Shelf shelf = lacks.get();
        Due.refusesSupport("rebuild(3, 4095)", () -> shelf.rebuild(3, ALL));
        Code.dueShare(shelf, 3, 0, 0, new int[0]);
        Code.dueShare(shelf, 3, 1, 0, new int[0]);
        Code.dueShare(shelf, 3, 11, 0, new int[0]);
        dueSent(shelf, 0, 0);
        Shelf other = lastObjectLacks(2);
        Due.is("rebuild(3, 4095), eight for the last one", other.rebuild(3, ALL), 32);
        Code.dueShare(other, 3, 0, 1, Code.someBytes(45, 2));
        Code.dueShare(other, 3, 1, 1, new int[0]);
        Code.dueShare(other, 3, 11, 1, Code.someBytes(45, 2));
    }

    private static void objectsWithoutBytesNeedNoHelpers() {
        Due.sentence("Promise 11: when there are no eight helpers for some object with bytes");
        Shelf shelf = new Shelf();
        shelf.put(6, 45);
        shelf.put(6, 0);
        shelf.fail(3);
        shelf.back(3, true);
        for (int node = 4; node < 12; node++) {
            shelf.fail(node);
        }
        Due.is("rebuild(3, 0)", shelf.rebuild(3, 0), 0);
        Code.dueShare(shelf, 3, 6, 2, new int[0]);
        Due.is("node(3, 2)", shelf.node(3, 2), 12);
    }

    private static void rebuildThrowsTheFirstTold() {
        Due.sentence("Promise 11: Of several exceptions the first one told is thrown.");
        Refused.index(Refused::busy, "rebuild(12, 4096)", s -> s.rebuild(12, 4096));
        Refused.index(Refused::busy, "rebuild(-1, -1)", s -> s.rebuild(-1, -1));
        Refused.index(Refused::noneLive, "rebuild(12, 0)", s -> s.rebuild(12, 0));
        Refused.argument(Refused::busy, "rebuild(10, 8191), failed", s -> s.rebuild(10, 8191));
        Refused.argument(Refused::busy, "rebuild(9, 4096), no eight", s -> s.rebuild(9, 4096));
        Refused.argument(Refused::busy, "rebuild(10, 4096), both", s -> s.rebuild(10, 4096));
        Refused.state(Refused::busy, "rebuild(10, 0), failed, no eight", s -> s.rebuild(10, 0));
        Refused.support(Refused::busy, "rebuild(9, 0)", s -> s.rebuild(9, 0));
    }
}
