/** Promise 1: twelve live nodes, nothing kept. */
public final class NewObjectTest {
    public static void main(String[] args) {
        Due.sentence("Promise 1: Twelve live nodes, nothing kept.");
        nodesAndObjects();
        shares();
        nothingWasReadOrLoaded();
        noCutIsToCome();
        shelvesAreApart();
        Due.end();
    }

    private static void nodesAndObjects() {
        Shelf shelf = new Shelf();
        for (int k = 0; k < 12; k++) {
            int number = k;
            Due.is("node(" + k + ", 0)", shelf.node(k, 0), 1);
            Due.is("node(" + k + ", 1)", shelf.node(k, 1), 0);
            Due.is("node(" + k + ", 2)", shelf.node(k, 2), 12);
            Due.is("node(" + k + ", 3)", shelf.node(k, 3), 0);
            Due.is("object(" + k + ", 0)", shelf.object(k, 0), 0);
            Due.is("object(" + k + ", 1)", shelf.object(k, 1), 0);
            Due.is("object(" + k + ", 2)", shelf.object(k, 2), 0);
            Due.refuses("get(" + k + ", 4095)", java.util.NoSuchElementException.class,
                    () -> shelf.get(number, 4095));
            Due.refusesState("settle(" + k + ")", () -> shelf.settle(number));
            Due.refusesState("back(" + k + ", false)", () -> shelf.back(number, false));
            Due.is("rebuild(" + k + ", 0)", shelf.rebuild(k, 0), 0);
        }
    }

    private static void shares() {
        Shelf shelf = new Shelf();
        for (int node = 0; node < 12; node++) {
            for (int object = 0; object < 12; object++) {
                Code.dueShare(shelf, node, object, 0, new int[0]);
            }
        }
    }

    private static void nothingWasReadOrLoaded() {
        Shelf shelf = new Shelf();
        Due.refusesIndex("out(0)", () -> shelf.out(0));
        Due.is("put without a load", shelf.put(0, 240), 1);
        Code.dueRead(shelf, 0, 4095, new int[240]);
    }

    private static void noCutIsToCome() {
        for (int live = 9; live <= 12; live++) {
            Shelf shelf = new Shelf();
            for (int node = live; node < 12; node++) {
                shelf.fail(node);
            }
            shelf.put(0, 1);
            Due.is("object(0, 2) by " + live, shelf.object(0, 2), 0);
        }
    }

    private static void shelvesAreApart() {
        Shelf one = new Shelf();
        Shelf other = new Shelf();
        Code.put(one, 0, Code.someBytes(40, 1));
        one.get(0, 4095);
        one.fail(3);
        one.cut(0);
        Due.is("newest of another shelf", other.object(0, 0), 0);
        Due.is("node 3 of another shelf", other.node(3, 0), 1);
        Due.refusesIndex("out(0) of another shelf", () -> other.out(0));
        Due.is("put into another shelf", other.put(0, 40), 1);
        Due.is("it does not stop", other.object(0, 2), 0);
        Code.dueRead(other, 0, 4095, new int[40]);
    }
}
