/** Promises 9 and 10: fail and back. */
public final class FailBackTest {
    public static void main(String[] args) {
        failRefuses();
        backRefuses();
        aFailedNodeKeepsWhatItHas();
        aNodeThatComesBackHasWhatItHad();
        aNodeCanComeBackEmpty();
        everyNodeCanFail();
        Due.end();
    }

    private static long failOf(ShareShelf shelf, int node) {
        shelf.fail(node);
        return 0;
    }

    private static long backOf(ShareShelf shelf, int node, boolean empty) {
        shelf.back(node, empty);
        return 0;
    }

    private static void failRefuses() {
        ShareShelf shelf = new ShareShelf();
        for (int node : new int[] {-1, 12, Integer.MIN_VALUE, Integer.MAX_VALUE}) {
            Due.refusesIndex("fail(" + node + ")", () -> failOf(shelf, node));
        }
        shelf.fail(6);
        Due.refusesState("fail(6) again", () -> failOf(shelf, 6));
        Due.is("node(6, 0)", shelf.node(6, 0), 0);
        Due.is("node(5, 0)", shelf.node(5, 0), 1);
    }

    private static void backRefuses() {
        ShareShelf shelf = new ShareShelf();
        for (int node : new int[] {-1, 12, Integer.MIN_VALUE, Integer.MAX_VALUE}) {
            Due.refusesIndex("back(" + node + ")", () -> backOf(shelf, node, false));
        }
        shelf.put(0, 5);
        Due.refusesState("back(3, true) of a live one", () -> backOf(shelf, 3, true));
        Due.is("it keeps its share", shelf.share(3, 0, 0), 1);
        shelf.fail(3);
        shelf.back(3, false);
        Due.refusesState("back(3, false) again", () -> backOf(shelf, 3, false));
    }

    private static void aFailedNodeKeepsWhatItHas() {
        ShareShelf shelf = new ShareShelf();
        int[] bytes = Code.someBytes(80, 1);
        Code.put(shelf, 1, bytes);
        shelf.cut(12);
        shelf.put(2, 7);
        shelf.fail(4);
        Code.dueShare(shelf, 4, 1, 1, bytes);
        Due.is("node(4, 2) of a failed one", shelf.node(4, 2), 12);
        Due.is("node(4, 3) of a failed one", shelf.node(4, 3), 1);
        shelf.settle(2);
        Due.is("settling does not reach it", shelf.node(4, 3), 1);
        shelf.back(4, false);
        Due.is("it comes back without shadows", shelf.node(4, 3), 0);
    }

    private static void aNodeThatComesBackHasWhatItHad() {
        ShareShelf shelf = new ShareShelf();
        int[] bytes = Code.someBytes(80, 1);
        Code.put(shelf, 1, bytes);
        Code.put(shelf, 3, bytes);
        shelf.cut(12);
        shelf.put(2, 7);
        shelf.cut(3);
        shelf.put(5, 7);
        Due.is("node(0, 3)", shelf.node(0, 3), 2);
        shelf.fail(0);
        Code.put(shelf, 3, Code.someBytes(10, 2));
        shelf.back(0, false);
        Due.is("node(0, 0)", shelf.node(0, 0), 1);
        Due.is("node(0, 2)", shelf.node(0, 2), 11);
        Due.is("node(0, 3)", shelf.node(0, 3), 0);
        Code.dueShare(shelf, 0, 1, 1, bytes);
        Code.dueShare(shelf, 0, 3, 1, bytes);
        Due.is("node(1, 3)", shelf.node(1, 3), 2);
    }

    private static void aNodeCanComeBackEmpty() {
        ShareShelf shelf = new ShareShelf();
        int[] bytes = Code.someBytes(80, 1);
        Code.put(shelf, 1, bytes);
        Code.put(shelf, 11, bytes);
        shelf.fail(2);
        shelf.back(2, true);
        shelf.rebuild(2, 4095);
        Due.is("node(0, 1)", shelf.node(0, 1), 6);
        shelf.cut(12);
        shelf.put(2, 7);
        shelf.fail(0);
        shelf.back(0, true);
        Due.is("node(0, 0)", shelf.node(0, 0), 1);
        Due.is("what it sent is not forgotten", shelf.node(0, 1), 6);
        Due.is("node(0, 2)", shelf.node(0, 2), 10);
        Due.is("node(0, 3)", shelf.node(0, 3), 0);
        for (int object = 0; object < 12; object++) {
            Code.dueShare(shelf, 0, object, 0, new int[0]);
        }
        Code.dueShare(shelf, 1, 1, 1, bytes);
    }

    private static void everyNodeCanFail() {
        ShareShelf shelf = new ShareShelf();
        int[] bytes = Code.someBytes(80, 1);
        Code.put(shelf, 1, bytes);
        for (int node = 0; node < 12; node++) {
            shelf.fail(node);
        }
        Due.refusesSupport("get", () -> shelf.get(1, 4095));
        for (int node = 0; node < 12; node++) {
            shelf.back(node, node > 4);
        }
        Code.dueRead(shelf, 1, 4095, bytes);
        shelf.fail(0);
        shelf.back(0, true);
        Due.refusesSupport("get, four are left", () -> shelf.get(1, 4095));
        Due.is("object(1, 0)", shelf.object(1, 0), 1);
        Due.is("object(1, 1)", shelf.object(1, 1), 80);
    }
}
