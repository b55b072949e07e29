/** Promises 8, 12, 13 and 14: object, node, share and byteAt. */
public final class LooksTest {
    private static final int[] NO_PLACES = {-1, 12, 13, Integer.MIN_VALUE, Integer.MAX_VALUE};

    public static void main(String[] args) {
        object();
        objectRefuses();
        node();
        nodeRefuses();
        share();
        shareRefuses();
        byteAt();
        byteAtRefusesOtherObjects();
        byteAtRefusesOtherBytes();
        looksChangeNothing();
        Due.end();
    }

    private static int[] noWhat(int count) {
        return new int[] {-1, count, count + 1, Integer.MIN_VALUE, Integer.MAX_VALUE};
    }

    private static void object() {
        Due.sentence("Promise 8: The newest version of an object (what 0), its length (1), whether "
                + "it is stopped (2: 1 or 0).");
        Shelf shelf = new Shelf();
        for (int k = 0; k < 12; k++) {
            shelf.put(k, 20 * k);
        }
        shelf.put(7, 3);
        shelf.cut(13);
        shelf.put(8, 5);
        for (int k = 0; k < 12; k++) {
            Due.is("object(" + k + ", 0)", shelf.object(k, 0), k == 7 ? 2 : 1);
            Due.is("object(" + k + ", 1)", shelf.object(k, 1), k == 7 ? 3 : 20 * k);
            Due.is("object(" + k + ", 2)", shelf.object(k, 2), k == 8 ? 1 : 0);
        }
        shelf.settle(8);
        Due.is("object(8, 0)", shelf.object(8, 0), 2);
        Due.is("object(8, 1)", shelf.object(8, 1), 5);
        Due.is("object(8, 2)", shelf.object(8, 2), 0);
    }

    private static void objectRefuses() {
        Due.sentence("Promise 8: IndexOutOfBoundsException, when there is no such object or what.");
        for (int object : NO_PLACES) {
            for (int k = 0; k < 3; k++) {
                int what = k;
                Refused.index(Refused::busy, "object(" + object + ", " + what + ")",
                        s -> s.object(object, what));
            }
        }
        for (int what : noWhat(3)) {
            for (int object : new int[] {0, 3, 11, 12}) {
                Refused.index(Refused::busy, "object(" + object + ", " + what + ")",
                        s -> s.object(object, what));
            }
        }
    }

    private static void node() {
        Due.sentence("Promise 12: Of a node whether it is live (what 0), how many bytes it has "
                + "sent (1), for how many objects it is fresh (2), how many shadows it has (3).");
        Shelf shelf = new Shelf();
        shelf.put(0, 50);
        shelf.fail(11);
        shelf.put(1, 50);
        shelf.put(2, 0);
        shelf.cut(4);
        shelf.put(3, 1);
        shelf.cut(14);
        shelf.put(4, 1);
        for (int k = 0; k < 12; k++) {
            Due.is("node(" + k + ", 0)", shelf.node(k, 0), k == 11 ? 0 : 1);
            Due.is("node(" + k + ", 1)", shelf.node(k, 1), 0);
            // Nodes 0 to 2 have a share of object 4 that is newer than its newest version.
            Due.is("node(" + k + ", 2)", shelf.node(k, 2), k == 11 ? 10 : k < 3 ? 11 : 12);
            Due.is("node(" + k + ", 3)", shelf.node(k, 3), k == 11 ? 0 : k == 3 ? 2 : 1);
        }
        shelf.back(11, false);
        Due.is("rebuild(11, 4095)", shelf.rebuild(11, 4095), 16);
        Due.is("node(11, 2)", shelf.node(11, 2), 12);
        Due.is("node(0, 1)", shelf.node(0, 1), 2);
        Due.is("node(8, 1)", shelf.node(8, 1), 0);
        theMostShadowsAndTheFewestFresh();
    }

    private static void theMostShadowsAndTheFewestFresh() {
        Shelf shelf = new Shelf();
        for (int object = 0; object < 12; object++) {
            shelf.put(object, 1);
        }
        shelf.fail(5);
        shelf.back(5, true);
        Due.is("node(5, 2), fresh for none", shelf.node(5, 2), 0);
        for (int object = 0; object < 12; object++) {
            shelf.cut(12);
            shelf.put(object, 1);
        }
        Due.is("node(5, 3), a shadow of each", shelf.node(5, 3), 12);
        Due.is("node(11, 3), a shadow of each", shelf.node(11, 3), 12);
    }

    private static void nodeRefuses() {
        Due.sentence("Promise 12: IndexOutOfBoundsException, also for another what.");
        for (int what : noWhat(4)) {
            for (int node : new int[] {0, 10, 11, 12}) {
                Refused.index(Refused::busy, "node(" + node + ", " + what + ")",
                        s -> s.node(node, what));
            }
        }
    }

    private static void share() {
        Due.sentence("Promise 13: Of a node's share of an object, failed or not, its version (what "
                + "0), length (1).");
        Shelf shelf = new Shelf();
        shelf.put(10, 77);
        shelf.fail(5);
        shelf.put(10, 78);
        shelf.cut(12);
        shelf.put(10, 79);
        for (int k = 0; k < 12; k++) {
            boolean last = k == 0;
            Due.is("share(" + k + ", 10, 0)", shelf.share(k, 10, 0), k == 5 ? 1 : last ? 3 : 2);
            Due.is("share(" + k + ", 10, 1)", shelf.share(k, 10, 1), k == 5 ? 77 : last ? 79 : 78);
            Due.is("share(" + k + ", 9, 0)", shelf.share(k, 9, 0), 0);
            Due.is("share(" + k + ", 9, 1)", shelf.share(k, 9, 1), 0);
        }
    }

    private static void shareRefuses() {
        Due.sentence("Promise 13: IndexOutOfBoundsException, also when there is no such object or "
                + "what.");
        for (int object : NO_PLACES) {
            Refused.index(Refused::busy, "share(0, " + object + ", 0)", s -> s.share(0, object, 0));
            Refused.index(Refused::busy, "share(11, " + object + ", 1)", s -> s.share(11, object, 1));
        }
        for (int what : noWhat(2)) {
            String end = ", " + what + ")";
            Refused.index(Refused::busy, "share(0, 0" + end, s -> s.share(0, 0, what));
            Refused.index(Refused::busy, "share(10, 11" + end, s -> s.share(10, 11, what));
            Refused.index(Refused::busy, "share(12, 12" + end, s -> s.share(12, 12, what));
        }
    }

    private static void byteAt() {
        Due.sentence("Promise 14: Byte i of a node's share of an object (eight of each stripe).");
        Shelf shelf = new Shelf();
        int[] old = Code.someBytes(240, 1);
        int[] bytes = Code.someBytes(31, 2);
        Code.put(shelf, 0, old);
        shelf.fail(9);
        Code.put(shelf, 0, bytes);
        Code.dueShare(shelf, 9, 0, 1, old);
        Code.dueShare(shelf, 8, 0, 2, bytes);
        shelf.cut(12);
        Code.put(shelf, 0, old);
        Code.dueShare(shelf, 0, 0, 3, old);
        Code.dueShare(shelf, 1, 0, 2, bytes);
    }

    private static void byteAtRefusesOtherObjects() {
        Due.sentence("Promise 14: IndexOutOfBoundsException, also when there is no such object");
        for (int object : NO_PLACES) {
            Refused.index(Refused::busy, "byteAt(0, " + object + ", 0)", s -> s.byteAt(0, object, 0));
            Refused.index(Refused::busy, "byteAt(11, " + object + ", -1)",
                    s -> s.byteAt(11, object, -1));
        }
    }

    private static void byteAtRefusesOtherBytes() {
        Due.sentence("Promise 14: IndexOutOfBoundsException, also when there is no such .. byte.");
        // Of object 0 node 0 has three stripes; of object 1 the failed node 10 has eight.
        for (int i : new int[] {-1, 24, 25, 62, 64, Integer.MIN_VALUE, Integer.MAX_VALUE}) {
            Refused.index(Refused::busy, "byteAt(0, 0, " + i + ")", s -> s.byteAt(0, 0, i));
        }
        for (int i : new int[] {-1, 64, 65, 240, Integer.MIN_VALUE, Integer.MAX_VALUE}) {
            Refused.index(Refused::busy, "byteAt(10, 1, " + i + ")", s -> s.byteAt(10, 1, i));
        }
        Refused.index(Refused::busy, "byteAt(9, 0, 0), emptied", s -> s.byteAt(9, 0, 0));
        Refused.index(Refused::busy, "byteAt(0, 2, 0), removed", s -> s.byteAt(0, 2, 0));
        Refused.index(Refused::busy, "byteAt(0, 3, 0), a shadow alone", s -> s.byteAt(0, 3, 0));
        Refused.index(Refused::busy, "byteAt(0, 11, 0), never put", s -> s.byteAt(0, 11, 0));
        int[] bytes = Code.someBytes(240, 1);
        Due.is("byteAt(0, 0, 23)", Refused.busy().byteAt(0, 0, 23),
                Code.shareOf(0, java.util.Arrays.copyOf(bytes, 62))[23]);
        Due.is("byteAt(10, 1, 63)", Refused.busy().byteAt(10, 1, 63), Code.shareOf(10, bytes)[63]);
    }

    private static void looksChangeNothing() {
        Due.sentence("Not promised: Nothing is promised beyond the answers and state changes "
                + "described above");
        Due.same("behind looks", Look.at(() -> {
            Shelf shelf = Refused.busy();
            for (int k = 0; k < 12; k++) {
                shelf.object(k, k % 3);
                shelf.node(k, k % 4);
                shelf.share(k, k, k % 2);
                shelf.byteAt(k % 9, 0, k);
                shelf.out(k);
                shelf.field(1 + k, k, k % 2);
            }
            return shelf;
        }), Look.at(Refused::busy));
    }
}
