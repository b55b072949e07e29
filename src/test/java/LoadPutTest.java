import java.util.Arrays;
import java.util.function.Supplier;

/** Promises 2 and 3: load and put. */
public final class LoadPutTest {
    private static final int ALL = 4095;
    private static final int[] NO_OBJECTS = {-1, 12, 13, Integer.MIN_VALUE, Integer.MAX_VALUE};
    private static final int[] EDGES = {
        1, 2, 14, 15, 16, 29, 30, 31, 59, 60, 61, 89, 90, 91, 119, 120, 121, 150, 180, 209, 210,
        211, 239, 240
    };

    public static void main(String[] args) {
        loadsHighestByteFirst();
        loadsEveryWord();
        loadRefusesOtherPlaces();
        putsTheFirstBytes();
        aPutOfNoBytesRemoves();
        aRemovalIsAPutAsAnyOther();
        whatWasLoadedStays();
        putRefusesOtherObjects();
        putRefusesOtherLengths();
        putRefusesStoppedObjects();
        putRefusesFewerThanNineNodes();
        nineNodesAreEnough();
        putThrowsTheFirstTold();
        aPutThatStopsAnswersItsVersion();
        Due.end();
    }

    private static void loadsHighestByteFirst() {
        Due.sentence("Promise 2: Bytes 4 * i to 4 * i + 3 of what is to be put, the highest byte "
                + "of the word first.");
        Shelf shelf = new Shelf();
        shelf.load(0, 0x01FF8003);
        shelf.load(1, 0x80000000);
        shelf.load(2, -1);
        shelf.load(58, Integer.MAX_VALUE);
        shelf.load(59, 0x7F0000FE);
        shelf.put(5, 240);
        int[] due = new int[240];
        System.arraycopy(new int[] {1, 255, 128, 3, 128, 0, 0, 0, 255, 255, 255, 255}, 0, due, 0, 12);
        System.arraycopy(new int[] {127, 255, 255, 255, 127, 0, 0, 254}, 0, due, 232, 8);
        Code.dueRead(shelf, 5, ALL, due);
    }

    private static void loadsEveryWord() {
        for (int i = 0; i < 60; i++) {
            Shelf shelf = new Shelf();
            shelf.load(i, 0x0A0B0C0D);
            shelf.load(i, 0x01020304);
            shelf.put(0, 240);
            int[] due = new int[240];
            System.arraycopy(new int[] {1, 2, 3, 4}, 0, due, 4 * i, 4);
            Code.dueRead(shelf, 0, ALL, due);
        }
    }

    private static void loadRefusesOtherPlaces() {
        Due.sentence("Promise 2: IndexOutOfBoundsException, when i is not 0 .. 59.");
        // Four times the last one wraps around to 0.
        for (int i : new int[] {-1, 60, 61, Integer.MIN_VALUE, Integer.MAX_VALUE, 1 << 30}) {
            Refused.index(Refused::busy, "load(" + i + ", -1)", s -> s.load(i, -1));
        }
        Due.is("load(0, 1)", new Shelf().load(0, 1), 0);
        Due.is("load(59, 1)", new Shelf().load(59, 1), 0);
    }

    /** Behind a longer put, whose bytes must not show in a shorter one. */
    private static Shelf putTwice(int[] bytes) {
        Shelf shelf = new Shelf();
        Code.put(shelf, 11, Code.someBytes(240, 99));
        Due.is("put(11, " + bytes.length + ")", Code.put(shelf, 11, bytes), 2);
        return shelf;
    }

    private static void putsTheFirstBytes() {
        Due.sentence("Promise 3: Puts the first n bytes of what was loaded");
        for (int length : EDGES) {
            int[] bytes = Code.someBytes(length, length);
            Shelf shelf = putTwice(bytes);
            Due.is("object(11, 0)", shelf.object(11, 0), 2);
            Due.is("object(11, 1)", shelf.object(11, 1), length);
            Due.is("object(11, 2)", shelf.object(11, 2), 0);
            Code.dueRead(shelf, 11, ALL, bytes);
            for (int node = 0; node < 12; node++) {
                Shelf again = putTwice(bytes);
                Code.dueShare(again, node, 11, 2, bytes);
                Due.is("node(" + node + ", 3)", again.node(node, 3), 0);
            }
        }
    }

    private static void aPutOfNoBytesRemoves() {
        Due.sentence("Promise 3: (0: the object is removed): its version.");
        Shelf shelf = new Shelf();
        Code.put(shelf, 2, Code.someBytes(70, 3));
        Due.is("put(2, 0)", shelf.put(2, 0), 2);
        Due.is("object(2, 0)", shelf.object(2, 0), 2);
        Due.is("object(2, 1)", shelf.object(2, 1), 0);
        Due.refuses("get(2, 4095)", java.util.NoSuchElementException.class, () -> shelf.get(2, ALL));
        for (int node = 0; node < 12; node++) {
            Code.dueShare(shelf, node, 2, 2, new int[0]);
            Due.is("node(" + node + ", 2)", shelf.node(node, 2), 12);
        }
        Due.is("put(2, 0) of what was removed", shelf.put(2, 0), 3);
        Due.is("put(9, 0) of what never was", shelf.put(9, 0), 1);
        Due.is("object(9, 0)", shelf.object(9, 0), 1);
        Due.is("share(0, 9, 0)", shelf.share(0, 9, 0), 1);
    }

    private static void aRemovalIsAPutAsAnyOther() {
        Due.sentence("Promise 3: That is a put as any other");
        Shelf shelf = new Shelf();
        Code.put(shelf, 2, Code.someBytes(10, 3));
        shelf.fail(5);
        shelf.cut(12);
        Due.is("put(2, 0) that stops", shelf.put(2, 0), 2);
        Due.is("object(2, 0)", shelf.object(2, 0), 1);
        Due.is("object(2, 1)", shelf.object(2, 1), 10);
        Due.is("object(2, 2)", shelf.object(2, 2), 1);
        Due.is("share(0, 2, 0)", shelf.share(0, 2, 0), 2);
        Due.is("share(1, 2, 0)", shelf.share(1, 2, 0), 1);
        Due.is("node(0, 3)", shelf.node(0, 3), 0);
        Due.is("node(1, 3)", shelf.node(1, 3), 1);
        Due.is("node(5, 3)", shelf.node(5, 3), 0);
        Due.is("settle(2)", shelf.settle(2), 1);
        Due.is("object(2, 1)", shelf.object(2, 1), 0);
        Due.is("share(11, 2, 0)", shelf.share(11, 2, 0), 2);
        Due.is("share(5, 2, 0)", shelf.share(5, 2, 0), 1);
        Due.is("share(5, 2, 1)", shelf.share(5, 2, 1), 10);
    }

    private static void whatWasLoadedStays() {
        Due.sentence("Promise 3: what was loaded stays.");
        int[] bytes = Code.someBytes(240, 5);
        int[] changed = bytes.clone();
        Arrays.fill(changed, 8, 12, 0);
        Supplier<Shelf> history = () -> {
            Shelf shelf = new Shelf();
            Code.load(shelf, bytes);
            shelf.put(0, 240);
            shelf.put(1, 0);
            shelf.put(1, 17);
            shelf.cut(3);
            shelf.put(3, 50);
            shelf.load(2, 0);
            shelf.put(2, 240);
            return shelf;
        };
        Code.dueRead(history.get(), 0, ALL, bytes);
        Code.dueRead(history.get(), 1, ALL, Arrays.copyOf(bytes, 17));
        Code.dueRead(history.get(), 2, ALL, changed);
    }

    private static void putRefusesOtherObjects() {
        Due.sentence("Promise 3: IndexOutOfBoundsException, when there is no such object");
        for (int object : NO_OBJECTS) {
            Refused.index(Refused::busy, "put(" + object + ", 1)", s -> s.put(object, 1));
        }
        for (int object = 0; object < 12; object++) {
            Due.is("put(" + object + ", 1)", new Shelf().put(object, 1), 1);
        }
    }

    private static void putRefusesOtherLengths() {
        Due.sentence("Promise 3: IllegalArgumentException, when n is not 0 .. 240");
        for (int n : new int[] {-1, 241, 242, 256, Integer.MIN_VALUE, Integer.MAX_VALUE}) {
            Refused.argument(Refused::busy, "put(0, " + n + ")", s -> s.put(0, n));
        }
        Due.is("put(0, 0)", new Shelf().put(0, 0), 1);
        Due.is("put(0, 240)", new Shelf().put(0, 240), 1);
    }

    private static void putRefusesStoppedObjects() {
        Due.sentence("Promise 3: IllegalStateException, when it is stopped");
        Refused.state(Refused::busy, "put(3, 45)", s -> s.put(3, 45));
        Refused.state(Refused::busy, "put(4, 0)", s -> s.put(4, 0));
        Refused.state(Refused::busy, "put(4, 240)", s -> s.put(4, 240));
        for (int messages = 0; messages < 24; messages++) {
            Shelf shelf = new Shelf();
            shelf.cut(messages);
            shelf.put(0, 9);
            Due.refusesState("put(0, 9), stopped behind " + messages, () -> shelf.put(0, 9));
            Due.is("put(1, 9), another object", shelf.put(1, 9), 1);
            shelf.settle(0);
            Due.is("put(0, 9), settled", shelf.put(0, 9), 2);
        }
    }

    private static void putRefusesFewerThanNineNodes() {
        Due.sentence("Promise 3: UnsupportedOperationException, when fewer than nine nodes are live.");
        for (int n : new int[] {0, 1, 240}) {
            Refused.support(Refused::eightLive, "put(0, " + n + ") by eight", s -> s.put(0, n));
            Refused.support(Refused::noneLive, "put(11, " + n + ") by none", s -> s.put(11, n));
        }
    }

    private static void nineNodesAreEnough() {
        int[] first = Code.someBytes(33, 1);
        int[] second = Code.someBytes(65, 2);
        Shelf shelf = new Shelf();
        Code.put(shelf, 6, first);
        shelf.fail(0);
        shelf.fail(7);
        shelf.fail(11);
        Due.is("put by nine nodes", Code.put(shelf, 6, second), 2);
        for (int node = 0; node < 12; node++) {
            boolean old = node == 0 || node == 7 || node == 11;
            Code.dueShare(shelf, node, 6, old ? 1 : 2, old ? first : second);
        }
        shelf.fail(3);
        Due.refusesSupport("put by eight", () -> shelf.put(6, 1));
        shelf.back(11, true);
        Due.is("put by nine again", shelf.put(6, 1), 3);
        Due.is("share(11, 6, 0)", shelf.share(11, 6, 0), 3);
        Due.is("share(3, 6, 0)", shelf.share(3, 6, 0), 2);
    }

    private static void putThrowsTheFirstTold() {
        Due.sentence("Promise 3: Of several exceptions the first one told is thrown.");
        Refused.index(Refused::busy, "put(12, 241)", s -> s.put(12, 241));
        Refused.index(Refused::busy, "put(-1, -1)", s -> s.put(-1, -1));
        Refused.index(Refused::eightLive, "put(12, 1) by eight", s -> s.put(12, 1));
        Refused.index(Refused::eightLive, "put(-1, 241) by eight", s -> s.put(-1, 241));
        Refused.argument(Refused::busy, "put(3, 241), stopped", s -> s.put(3, 241));
        Refused.argument(Refused::eightLive, "put(0, -1) by eight", s -> s.put(0, -1));
        Refused.argument(Refused::eightLive, "put(4, 241), stopped, by eight", s -> s.put(4, 241));
        Refused.state(Refused::eightLive, "put(3, 1), stopped, by eight", s -> s.put(3, 1));
    }

    private static void aPutThatStopsAnswersItsVersion() {
        Due.sentence("Promise 3: (A put that stops answers its version as well.)");
        for (int messages = 0; messages < 24; messages++) {
            Shelf shelf = new Shelf();
            shelf.put(8, 5);
            shelf.put(8, 5);
            shelf.cut(messages);
            Due.is("put that stops behind " + messages, shelf.put(8, 5), 3);
            Due.is("it stops", shelf.object(8, 2), 1);
            Due.is("the newest one", shelf.object(8, 0), 2);
        }
    }
}
