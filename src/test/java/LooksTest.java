/** Promises 8, 12, 13 and 14: object, node, share and byteAt. */
public final class LooksTest {
    private static final int[] WRONG = {-1, 12, Integer.MIN_VALUE, Integer.MAX_VALUE};

    public static void main(String[] args) {
        object();
        objectRefuses();
        node();
        nodeRefuses();
        share();
        shareRefuses();
        byteAt();
        byteAtRefuses();
        Due.end();
    }

    private static void object() {
        ShareShelf shelf = new ShareShelf();
        for (int k = 0; k < 12; k++) {
            shelf.put(k, 20 * k);
        }
        shelf.put(7, 3);
        shelf.cut(13);
        shelf.put(8, 5);
        for (int k = 0; k < 12; k++) {
            Due.is("object(" + k + ", 0)", shelf.object(k, 0), k == 7 ? 2 : 1);
            Due.is("object(" + k + ", 1)", shelf.object(k, 1), k == 7 ? 3 : 20 * k);
            Due.is("object(" + k + ", 2)", shelf.object(k, 2), k == 8 ? 1 : 0);
        }
        shelf.settle(8);
        Due.is("object(8, 0)", shelf.object(8, 0), 2);
        Due.is("object(8, 1)", shelf.object(8, 1), 5);
        Due.is("object(8, 2)", shelf.object(8, 2), 0);
    }

    private static void objectRefuses() {
        ShareShelf shelf = new ShareShelf();
        for (int wrong : WRONG) {
            Due.refusesIndex("object(" + wrong + ", 0)", () -> shelf.object(wrong, 0));
            Due.refusesIndex("object(0, " + wrong + ")", () -> shelf.object(0, wrong));
        }
        Due.refusesIndex("object(0, 3)", () -> shelf.object(0, 3));
    }

    private static void node() {
        ShareShelf shelf = new ShareShelf();
        shelf.put(0, 50);
        shelf.fail(11);
        shelf.put(1, 50);
        shelf.put(2, 0);
        shelf.cut(4);
        shelf.put(3, 1);
        shelf.cut(14);
        shelf.put(4, 1);
        for (int k = 0; k < 12; k++) {
            Due.is("node(" + k + ", 0)", shelf.node(k, 0), k == 11 ? 0 : 1);
            Due.is("node(" + k + ", 1)", shelf.node(k, 1), 0);
            // Nodes 0 to 2 have a share of object 4 that is newer than its newest version.
            Due.is("node(" + k + ", 2)", shelf.node(k, 2), k == 11 ? 10 : k < 3 ? 11 : 12);
            Due.is("node(" + k + ", 3)", shelf.node(k, 3), k == 11 ? 0 : k == 3 ? 2 : 1);
        }
        shelf.back(11, false);
        Due.is("rebuild(11, 4095)", shelf.rebuild(11, 4095), 16);
        Due.is("node(11, 2)", shelf.node(11, 2), 12);
        Due.is("node(0, 1)", shelf.node(0, 1), 2);
        Due.is("node(8, 1)", shelf.node(8, 1), 0);
    }

    private static void nodeRefuses() {
        ShareShelf shelf = new ShareShelf();
        for (int wrong : WRONG) {
            Due.refusesIndex("node(" + wrong + ", 0)", () -> shelf.node(wrong, 0));
            Due.refusesIndex("node(0, " + wrong + ")", () -> shelf.node(0, wrong));
        }
        Due.refusesIndex("node(0, 4)", () -> shelf.node(0, 4));
    }

    private static void share() {
        ShareShelf shelf = new ShareShelf();
        shelf.put(10, 77);
        shelf.fail(5);
        shelf.put(10, 78);
        shelf.cut(12);
        shelf.put(10, 79);
        for (int k = 0; k < 12; k++) {
            boolean last = k == 0;
            Due.is("share(" + k + ", 10, 0)", shelf.share(k, 10, 0), k == 5 ? 1 : last ? 3 : 2);
            Due.is("share(" + k + ", 10, 1)", shelf.share(k, 10, 1), k == 5 ? 77 : last ? 79 : 78);
            Due.is("share(" + k + ", 9, 0)", shelf.share(k, 9, 0), 0);
        }
    }

    private static void shareRefuses() {
        ShareShelf shelf = new ShareShelf();
        for (int wrong : WRONG) {
            Due.refusesIndex("share(" + wrong + ", 0, 0)", () -> shelf.share(wrong, 0, 0));
            Due.refusesIndex("share(0, " + wrong + ", 0)", () -> shelf.share(0, wrong, 0));
            Due.refusesIndex("share(0, 0, " + wrong + ")", () -> shelf.share(0, 0, wrong));
        }
        Due.refusesIndex("share(0, 0, 2)", () -> shelf.share(0, 0, 2));
    }

    private static void byteAt() {
        ShareShelf shelf = new ShareShelf();
        int[] old = Code.someBytes(240, 1);
        int[] bytes = Code.someBytes(31, 2);
        Code.put(shelf, 0, old);
        shelf.fail(9);
        Code.put(shelf, 0, bytes);
        Code.dueShare(shelf, 9, 0, 1, old);
        Code.dueShare(shelf, 8, 0, 2, bytes);
        shelf.cut(12);
        Code.put(shelf, 0, old);
        Code.dueShare(shelf, 0, 0, 3, old);
        Code.dueShare(shelf, 1, 0, 2, bytes);
    }

    private static void byteAtRefuses() {
        ShareShelf shelf = new ShareShelf();
        shelf.put(0, 240);
        for (int wrong : WRONG) {
            Due.refusesIndex("byteAt(" + wrong + ", 0, 0)", () -> shelf.byteAt(wrong, 0, 0));
            Due.refusesIndex("byteAt(0, " + wrong + ", 0)", () -> shelf.byteAt(0, wrong, 0));
        }
        for (int wrong : new int[] {-1, 64, Integer.MIN_VALUE, Integer.MAX_VALUE}) {
            Due.refusesIndex("byteAt(0, 0, " + wrong + ")", () -> shelf.byteAt(0, 0, wrong));
        }
        Due.refusesIndex("byteAt(0, 1, 0)", () -> shelf.byteAt(0, 1, 0));
    }
}
