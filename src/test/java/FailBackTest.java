/** Promises 9 and 10: fail and back. */
public final class FailBackTest {
    private static final int ALL = 4095;
    private static final int[] NO_NODES = {-1, 12, 13, Integer.MIN_VALUE, Integer.MAX_VALUE};

    public static void main(String[] args) {
        aNodeFails();
        everyNodeCanFail();
        allCallsRefuseOtherNodes();
        failRefusesFailedNodes();
        aNodeThatComesBackHasWhatItHad();
        aNodeComesBackWithoutShadows();
        aNodeCanComeBackEmpty();
        backRefusesLiveNodes();
        Due.end();
    }

    private static void aNodeFails() {
        Due.sentence("Promise 9: A node fails.");
        for (int node = 0; node < 12; node++) {
            Shelf shelf = new Shelf();
            int[] bytes = Code.someBytes(80, 1);
            Code.put(shelf, 1, bytes);
            shelf.cut(12);
            shelf.put(2, 7);
            shelf.fail(node);
            for (int other = 0; other < 12; other++) {
                Due.is("node(" + other + ", 0)", shelf.node(other, 0), other == node ? 0 : 1);
            }
            Code.dueShare(shelf, node, 1, 1, bytes);
            Due.is("node(" + node + ", 2) of a failed one", shelf.node(node, 2), 12);
            Due.is("node(" + node + ", 3) of a failed one", shelf.node(node, 3), 1);
            shelf.settle(2);
            Due.is("settling does not reach it", shelf.node(node, 3), 1);
        }
    }

    private static void everyNodeCanFail() {
        Shelf shelf = new Shelf();
        int[] bytes = Code.someBytes(80, 1);
        Code.put(shelf, 1, bytes);
        for (int node = 0; node < 12; node++) {
            shelf.fail(node);
            Due.is("node(" + node + ", 0)", shelf.node(node, 0), 0);
        }
        Due.refusesSupport("get", () -> shelf.get(1, ALL));
        for (int node = 0; node < 12; node++) {
            shelf.back(node, node > 4);
            Due.is("node(" + node + ", 0)", shelf.node(node, 0), 1);
        }
        Code.dueRead(shelf, 1, ALL, bytes);
        shelf.fail(0);
        shelf.back(0, true);
        Due.refusesSupport("get, four are left", () -> shelf.get(1, ALL));
        Due.is("object(1, 0)", shelf.object(1, 0), 1);
        Due.is("object(1, 1)", shelf.object(1, 1), 80);
    }

    private static void allCallsRefuseOtherNodes() {
        Due.sentence("Promise 9: For all calls with a node: IndexOutOfBoundsException, when there "
                + "is none.");
        for (int node : NO_NODES) {
            String of = "(" + node + ", ";
            Refused.index(Refused::busy, "fail(" + node + ")", s -> s.fail(node));
            Refused.index(Refused::busy, "back" + of + "false)", s -> s.back(node, false));
            Refused.index(Refused::busy, "back" + of + "true)", s -> s.back(node, true));
            Refused.index(Refused::busy, "rebuild" + of + "4095)", s -> s.rebuild(node, ALL));
            for (int k = 0; k < 4; k++) {
                int what = k;
                Refused.index(Refused::busy, "node" + of + what + ")", s -> s.node(node, what));
            }
            Refused.index(Refused::busy, "share" + of + "0, 0)", s -> s.share(node, 0, 0));
            Refused.index(Refused::busy, "share" + of + "0, 1)", s -> s.share(node, 0, 1));
            Refused.index(Refused::busy, "byteAt" + of + "0, 0)", s -> s.byteAt(node, 0, 0));
        }
    }

    private static void failRefusesFailedNodes() {
        Due.sentence("Promise 9: IllegalStateException, when it has failed.");
        Refused.state(Refused::busy, "fail(10)", s -> s.fail(10));
        for (int k = 0; k < 12; k++) {
            int node = k;
            Shelf shelf = new Shelf();
            shelf.fail(node);
            Due.refusesState("fail(" + node + ") again", () -> shelf.fail(node));
            Due.is("node(" + node + ", 0)", shelf.node(node, 0), 0);
            shelf.back(node, false);
            Due.is("fail(" + node + ") when it is back", shelf.fail(node), 0);
        }
    }

    private static void aNodeThatComesBackHasWhatItHad() {
        Due.sentence("Promise 10: A failed node is live again, with what it had");
        Shelf shelf = new Shelf();
        int[] bytes = Code.someBytes(80, 1);
        Code.put(shelf, 1, bytes);
        Code.put(shelf, 3, bytes);
        shelf.put(4, 0);
        shelf.fail(0);
        Code.put(shelf, 3, Code.someBytes(10, 2));
        shelf.back(0, false);
        Due.is("node(0, 0)", shelf.node(0, 0), 1);
        Due.is("node(0, 2)", shelf.node(0, 2), 11);
        Code.dueShare(shelf, 0, 1, 1, bytes);
        Code.dueShare(shelf, 0, 3, 1, bytes);
        Code.dueShare(shelf, 0, 4, 1, new int[0]);
        Code.dueShare(shelf, 0, 5, 0, new int[0]);
    }

    private static void aNodeComesBackWithoutShadows() {
        Due.sentence("Promise 10: (without shadows)");
        for (boolean empty : new boolean[] {false, true}) {
            Shelf shelf = new Shelf();
            shelf.cut(12);
            shelf.put(2, 7);
            shelf.cut(3);
            shelf.put(5, 7);
            Due.is("node(0, 3)", shelf.node(0, 3), 2);
            shelf.fail(0);
            shelf.back(0, empty);
            Due.is("node(0, 3) when it is back", shelf.node(0, 3), 0);
            Due.is("node(1, 3)", shelf.node(1, 3), 2);
            Due.is("object(2, 2)", shelf.object(2, 2), 1);
        }
    }

    private static void aNodeCanComeBackEmpty() {
        Due.sentence("Promise 10: or empty.");
        Shelf shelf = new Shelf();
        int[] bytes = Code.someBytes(80, 1);
        Code.put(shelf, 1, bytes);
        Code.put(shelf, 11, bytes);
        shelf.fail(2);
        shelf.back(2, true);
        shelf.rebuild(2, ALL);
        Due.is("node(0, 1)", shelf.node(0, 1), 6);
        shelf.put(3, 0);
        shelf.fail(0);
        shelf.back(0, true);
        Due.is("node(0, 0)", shelf.node(0, 0), 1);
        Due.is("what it sent is not forgotten", shelf.node(0, 1), 6);
        Due.is("node(0, 2)", shelf.node(0, 2), 9);
        for (int object = 0; object < 12; object++) {
            Code.dueShare(shelf, 0, object, 0, new int[0]);
        }
        Code.dueShare(shelf, 1, 1, 1, bytes);
        Due.is("object(1, 0)", shelf.object(1, 0), 1);
    }

    private static void backRefusesLiveNodes() {
        Due.sentence("Promise 10: IllegalStateException, when it is live.");
        // Node 0 has shadows and shares, node 9 came back empty, node 11 never failed.
        for (int node : new int[] {0, 9, 11}) {
            String call = "back(" + node + ", ";
            Refused.state(Refused::busy, call + "true)", s -> s.back(node, true));
            Refused.state(Refused::busy, call + "false)", s -> s.back(node, false));
        }
        for (int k = 0; k < 12; k++) {
            int node = k;
            Shelf shelf = new Shelf();
            Due.refusesState("back(" + node + ", false)", () -> shelf.back(node, false));
            shelf.fail(node);
            shelf.back(node, false);
            Due.refusesState("back(" + node + ", false) again", () -> shelf.back(node, false));
        }
    }
}
