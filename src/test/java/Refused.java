import java.util.function.Supplier;

/**
 * Calls that are refused: each is made on one of two shelves of the same history, and both are
 * looked at then, at once and behind calls that show what can't be asked for: what was loaded, a
 * cut that is still to come, and the version that the next put makes.
 */
final class Refused {
    interface Ask {
        long of(Shelf shelf);
    }

    private static final int ALL = 4095;

    private Refused() {}

    static void index(Supplier<Shelf> history, String call, Ask ask) {
        by(IndexOutOfBoundsException.class, history, call, ask);
    }

    static void argument(Supplier<Shelf> history, String call, Ask ask) {
        by(IllegalArgumentException.class, history, call, ask);
    }

    static void state(Supplier<Shelf> history, String call, Ask ask) {
        by(IllegalStateException.class, history, call, ask);
    }

    static void element(Supplier<Shelf> history, String call, Ask ask) {
        by(java.util.NoSuchElementException.class, history, call, ask);
    }

    static void support(Supplier<Shelf> history, String call, Ask ask) {
        by(UnsupportedOperationException.class, history, call, ask);
    }

    private static void by(
            Class<? extends RuntimeException> due, Supplier<Shelf> history, String call, Ask ask) {
        Shelf one = history.get();
        Due.refuses(call, due, () -> ask.of(one));
        Supplier<Shelf> behind = () -> {
            Shelf shelf = history.get();
            Due.answerOf(() -> ask.of(shelf));
            return shelf;
        };
        Due.same("behind " + call, Look.at(behind), Look.at(history));
        Due.same("behind " + call + " and a put",
                Look.at(() -> putAgain(behind.get())), Look.at(() -> putAgain(history.get())));
        Due.same("behind " + call + " and more",
                Look.at(() -> goOn(behind.get())), Look.at(() -> goOn(history.get())));
    }

    private static Shelf putAgain(Shelf shelf) {
        for (int k = 0; k < 12; k++) {
            int node = k;
            Due.answerOf(() -> shelf.back(node, false));
        }
        Due.answerOf(() -> shelf.put(6, 240));
        return shelf;
    }

    private static Shelf goOn(Shelf shelf) {
        putAgain(shelf);
        for (int k = 0; k < 12; k++) {
            int object = k;
            Due.answerOf(() -> shelf.settle(object));
        }
        Due.answerOf(() -> shelf.rebuild(9, ALL));
        Due.answerOf(() -> shelf.rebuild(10, ALL));
        for (int k = 0; k < 12; k++) {
            int object = k;
            Due.answerOf(() -> shelf.put(object, 1 + object));
        }
        return shelf;
    }

    /** A shelf in which much is under way: see the lines behind the calls. */
    static Shelf busy() {
        Shelf shelf = new Shelf();
        Code.load(shelf, Code.someBytes(240, 1));
        shelf.put(0, 61);
        shelf.put(1, 240);
        shelf.put(2, 30);
        shelf.put(2, 0); // object 2 is removed
        shelf.put(4, 90);
        shelf.fail(7);
        shelf.back(7, true);
        shelf.rebuild(7, ALL); // some nodes have sent bytes
        shelf.fail(8);
        shelf.put(0, 62);
        shelf.back(8, false); // node 8 is old for object 0
        shelf.fail(9);
        shelf.back(9, true); // node 9 is empty
        shelf.cut(5);
        shelf.put(3, 45); // object 3 is stopped, and has no bytes yet
        shelf.cut(14);
        shelf.put(4, 31); // object 4 is stopped; nodes 0 and 1 have its new share
        shelf.fail(10); // node 10 has failed, with a shadow
        shelf.put(1, 200); // and is old for object 1
        shelf.get(0, ALL); // 62 bytes were read
        shelf.cut(17); // and the next put is to stop
        return shelf;
    }

    /** The same with eight live nodes, 3 to 9 and 11. */
    static Shelf eightLive() {
        Shelf shelf = busy();
        for (int node = 0; node < 3; node++) {
            shelf.fail(node);
        }
        return shelf;
    }

    static Shelf noneLive() {
        Shelf shelf = eightLive();
        for (int node = 3; node < 10; node++) {
            shelf.fail(node);
        }
        shelf.fail(11);
        return shelf;
    }
}
