/** Promise 1: twelve live nodes, nothing kept. */
public final class NewObjectTest {
    public static void main(String[] args) {
        ShareShelf shelf = new ShareShelf();
        for (int node = 0; node < 12; node++) {
            Due.is("node live", shelf.node(node, 0), 1);
            Due.is("node sent", shelf.node(node, 1), 0);
            Due.is("node fresh", shelf.node(node, 2), 12);
            Due.is("node shadows", shelf.node(node, 3), 0);
            for (int object = 0; object < 12; object++) {
                Code.dueShare(shelf, node, object, 0, new int[0]);
            }
        }
        for (int k = 0; k < 12; k++) {
            int object = k;
            Due.is("newest", shelf.object(object, 0), 0);
            Due.is("length", shelf.object(object, 1), 0);
            Due.is("stopped", shelf.object(object, 2), 0);
            Due.refuses(
                    "get", java.util.NoSuchElementException.class, () -> shelf.get(object, 4095));
            Due.refusesState("settle", () -> shelf.settle(object) ? 1 : 0);
        }
        Due.refusesIndex("out(0)", () -> shelf.out(0));
        loadedIsZero();
        objectsAreApart();
        Due.end();
    }

    private static void loadedIsZero() {
        ShareShelf shelf = new ShareShelf();
        Due.is("put without a load", shelf.put(0, 240), 1);
        Code.dueRead(shelf, 0, 4095, new int[240]);
    }

    private static void objectsAreApart() {
        ShareShelf one = new ShareShelf();
        Code.put(one, 0, Code.someBytes(40, 1));
        one.fail(3);
        ShareShelf other = new ShareShelf();
        Due.is("newest of another shelf", other.object(0, 0), 0);
        Due.is("node 3 of another shelf", other.node(3, 0), 1);
    }
}
