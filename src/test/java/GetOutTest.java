import java.util.function.Supplier;

/** Promises 6 and 7: get and out. */
public final class GetOutTest {
    private static final int ALL = 4095;
    private static final int[] NO_PLACES = {-1, 12, 13, Integer.MIN_VALUE, Integer.MAX_VALUE};

    public static void main(String[] args) {
        anyFiveTellIt();
        everyLengthIsRead();
        onlyLiveAndFreshOnesCount();
        readersAreChosenAnew();
        getRefusesOtherObjects();
        getRefusesOtherBits();
        getRefusesStoppedObjects();
        getRefusesObjectsWithoutBytes();
        getRefusesFewerThanFive();
        getThrowsTheFirstTold();
        outIsWhatWasReadLast();
        aGetThatThrowsReadsNothing();
        outRefusesWhereThereIsNone();
        Due.end();
    }

    /** Reads something else first, so that what an earlier read left can not pass for this one. */
    private static Shelf withAnotherRead(int[] bytes) {
        Shelf shelf = new Shelf();
        Code.put(shelf, 5, Code.someBytes(240, 9));
        Code.put(shelf, 4, bytes);
        shelf.get(5, ALL);
        return shelf;
    }

    private static void anyFiveTellIt() {
        Due.sentence("Promise 6: Reads an object by nodes (bit k: node k)");
        int[] bytes = Code.someBytes(47, 8);
        for (int k = 0; k <= ALL; k++) {
            int mask = k;
            if (Integer.bitCount(mask) == 5) {
                Code.dueRead(withAnotherRead(bytes), 4, mask, bytes);
            } else if (Integer.bitCount(mask) < 5) {
                Shelf shelf = withAnotherRead(bytes);
                Due.refusesSupport("get(4, " + mask + ")", () -> shelf.get(4, mask));
            } else {
                Due.is("get(4, " + mask + ")", withAnotherRead(bytes).get(4, mask), 47);
            }
        }
    }

    private static void everyLengthIsRead() {
        Due.sentence("Promise 6: How many bytes.");
        for (int length = 1; length <= 240; length++) {
            int[] bytes = Code.someBytes(length, length);
            Code.dueRead(withAnotherRead(bytes), 4, 0b101010101010 >> (length % 2), bytes);
        }
    }

    private static void onlyLiveAndFreshOnesCount() {
        Due.sentence("Promise 6: of the live and fresh ones of these the lowest five.");
        Shelf shelf = new Shelf();
        int[] bytes = Code.someBytes(40, 2);
        Code.put(shelf, 0, Code.someBytes(40, 1));
        shelf.fail(0);
        shelf.fail(1);
        Code.put(shelf, 0, bytes);
        shelf.back(0, false);
        shelf.back(1, true);
        Code.dueRead(shelf, 0, ALL, bytes);
        Code.dueRead(shelf, 0, 0b1111111, bytes);
        Due.refusesSupport("one of six is old, one empty", () -> shelf.get(0, 0b111111));
        shelf.fail(6);
        Due.refusesSupport("one of seven has failed", () -> shelf.get(0, 0b1111111));
        Code.dueRead(shelf, 0, 0b11111111, bytes);
        for (int node = 7; node < 10; node++) {
            shelf.fail(node);
        }
        Code.dueRead(shelf, 0, ALL, bytes);
        shelf.fail(10);
        Code.dueRead(shelf, 0, ALL, bytes);
        shelf.fail(11);
        Due.refusesSupport("four are left", () -> shelf.get(0, ALL));
        shelf.back(6, false);
        Code.dueRead(shelf, 0, ALL, bytes);
    }

    private static void readersAreChosenAnew() {
        Shelf shelf = new Shelf();
        int[] old = Code.someBytes(90, 1);
        int[] bytes = Code.someBytes(90, 2);
        Code.put(shelf, 0, old);
        Code.dueRead(shelf, 0, ALL, old);
        shelf.fail(2);
        Code.put(shelf, 0, bytes);
        shelf.back(2, false);
        Code.dueRead(shelf, 0, ALL, bytes);
    }

    private static void getRefusesOtherObjects() {
        Due.sentence("Promise 6: IndexOutOfBoundsException, when there is no such object");
        for (int object : NO_PLACES) {
            Refused.index(Refused::busy, "get(" + object + ", 4095)", s -> s.get(object, ALL));
        }
        for (int k = 0; k < 12; k++) {
            Shelf shelf = new Shelf();
            shelf.put(k, 1);
            Due.is("get(" + k + ", 4095)", shelf.get(k, ALL), 1);
        }
    }

    private static void getRefusesOtherBits() {
        Due.sentence("Promise 6: IllegalArgumentException, when mask has other bits");
        for (int bit = 12; bit < 32; bit++) {
            int mask = ALL | 1 << bit;
            Refused.argument(Refused::busy, "get(0, " + mask + ")", s -> s.get(0, mask));
        }
        Refused.argument(Refused::busy, "get(0, -1)", s -> s.get(0, -1));
        Refused.argument(Refused::busy, "get(0, 2147483647)", s -> s.get(0, Integer.MAX_VALUE));
    }

    private static void getRefusesStoppedObjects() {
        Due.sentence("Promise 6: IllegalStateException, when it is stopped");
        Refused.state(Refused::busy, "get(4, 4095)", s -> s.get(4, ALL));
        int[] bytes = Code.someBytes(15, 3);
        for (int messages = 0; messages < 24; messages++) {
            Shelf shelf = new Shelf();
            Code.put(shelf, 0, bytes);
            shelf.cut(messages);
            shelf.put(0, 5);
            Due.refusesState("get(0, 4095), stopped behind " + messages, () -> shelf.get(0, ALL));
            shelf.settle(0);
            Due.is("get(0, 4095), settled", shelf.get(0, ALL), messages > 12 ? 5 : 15);
        }
    }

    private static void getRefusesObjectsWithoutBytes() {
        Due.sentence("Promise 6: NoSuchElementException, when its newest version has no bytes");
        Refused.element(Shelf::new, "get(0, 4095), never put", s -> s.get(0, ALL));
        Refused.element(Refused::busy, "get(11, 4095), never put", s -> s.get(11, ALL));
        Refused.element(Refused::busy, "get(2, 4095), removed", s -> s.get(2, ALL));
        Supplier<Shelf> lost = () -> {
            Shelf shelf = new Shelf();
            shelf.cut(12);
            shelf.put(1, 5);
            shelf.settle(1);
            return shelf;
        };
        Refused.element(lost, "get(1, 4095), its only put is lost", s -> s.get(1, ALL));
        Shelf again = new Shelf();
        again.put(0, 3);
        again.put(0, 0);
        again.put(0, 1);
        Due.is("get(0, 4095), put again", again.get(0, ALL), 1);
    }

    private static void getRefusesFewerThanFive() {
        Due.sentence("Promise 6: UnsupportedOperationException, when there are no five.");
        // Of object 0 node 8 has an old share and node 9 none, and node 10 has failed.
        for (int mask : new int[] {0, 1, 0b1111, 0b100000000111, 0b011100001111}) {
            Refused.support(Refused::busy, "get(0, " + mask + ")", s -> s.get(0, mask));
        }
        for (int mask : new int[] {0b11111, 0b100011110000, 0b011111111000}) {
            Due.is("get(0, " + mask + ")", Refused.busy().get(0, mask), 62);
        }
        Refused.support(Refused::noneLive, "get(0, 4095) by none", s -> s.get(0, ALL));
    }

    private static void getThrowsTheFirstTold() {
        Due.sentence("Promise 6: Of several exceptions the first one told is thrown.");
        Refused.index(Refused::busy, "get(12, 4096)", s -> s.get(12, 4096));
        Refused.index(Refused::busy, "get(-1, -1)", s -> s.get(-1, -1));
        Refused.index(Refused::noneLive, "get(12, 0)", s -> s.get(12, 0));
        Refused.argument(Refused::busy, "get(4, 8191), stopped", s -> s.get(4, 8191));
        Refused.argument(Refused::busy, "get(2, 8191), no bytes", s -> s.get(2, 8191));
        Refused.argument(Refused::busy, "get(0, 4096), no five", s -> s.get(0, 4096));
        Refused.argument(Refused::busy, "get(3, 4096), all of these", s -> s.get(3, 4096));
        Refused.state(Refused::busy, "get(3, 4095), stopped, no bytes", s -> s.get(3, ALL));
        Refused.state(Refused::busy, "get(4, 15), stopped, no five", s -> s.get(4, 15));
        Refused.state(Refused::busy, "get(3, 0), stopped and both", s -> s.get(3, 0));
        Refused.element(Refused::busy, "get(2, 15), no bytes, no five", s -> s.get(2, 15));
        Refused.element(Refused::noneLive, "get(11, 4095), no bytes, no five", s -> s.get(11, ALL));
    }

    private static void outIsWhatWasReadLast() {
        Due.sentence("Promise 7: Byte i of what was read last.");
        Shelf shelf = new Shelf();
        int[] bytes = Code.someBytes(50, 4);
        Code.put(shelf, 0, bytes);
        Code.put(shelf, 1, Code.someBytes(9, 5));
        Code.dueRead(shelf, 0, ALL, bytes);
        Code.put(shelf, 0, Code.someBytes(20, 6));
        shelf.put(0, 0);
        shelf.fail(0);
        shelf.back(0, true);
        shelf.rebuild(0, ALL);
        dueStillRead(shelf, bytes);
        Code.dueRead(shelf, 1, ALL, Code.someBytes(9, 5));
    }

    private static void dueStillRead(Shelf shelf, int[] bytes) {
        for (int i = 0; i < bytes.length; i++) {
            Due.is("out(" + i + ")", shelf.out(i), bytes[i]);
        }
        Due.refusesIndex("out(" + bytes.length + ")", () -> shelf.out(bytes.length));
    }

    private static void aGetThatThrowsReadsNothing() {
        Due.sentence("Promise 7: what was read last.");
        int[] bytes = Code.someBytes(20, 4);
        Shelf shelf = new Shelf();
        Code.put(shelf, 0, bytes);
        shelf.put(1, 9);
        shelf.cut(0);
        shelf.put(2, 9);
        shelf.get(0, ALL);
        Due.refusesIndex("get(12, 4095)", () -> shelf.get(12, ALL));
        dueStillRead(shelf, bytes);
        Due.refuses("get(1, 4096)", IllegalArgumentException.class, () -> shelf.get(1, 4096));
        dueStillRead(shelf, bytes);
        Due.refusesState("get(2, 4095)", () -> shelf.get(2, ALL));
        dueStillRead(shelf, bytes);
        Due.refuses("get(3, 4095)", java.util.NoSuchElementException.class, () -> shelf.get(3, ALL));
        dueStillRead(shelf, bytes);
        Due.refusesSupport("get(1, 15)", () -> shelf.get(1, 15));
        dueStillRead(shelf, bytes);
    }

    private static void outRefusesWhereThereIsNone() {
        Due.sentence("Promise 7: IndexOutOfBoundsException, when there is none.");
        Refused.index(Shelf::new, "out(0) of a new one", s -> s.out(0));
        Supplier<Shelf> unread = () -> {
            Shelf shelf = new Shelf();
            shelf.put(0, 240);
            return shelf;
        };
        Refused.index(unread, "out(0) behind a put", s -> s.out(0));
        // 62 bytes were read there.
        for (int i : new int[] {-1, 62, 63, 64, 240, Integer.MIN_VALUE, Integer.MAX_VALUE}) {
            Refused.index(Refused::busy, "out(" + i + ")", s -> s.out(i));
        }
        Shelf shelf = new Shelf();
        shelf.put(0, 240);
        shelf.put(1, 1);
        shelf.get(0, ALL);
        Due.is("out(239)", shelf.out(239), 0);
        Due.refusesIndex("out(240)", () -> shelf.out(240));
        shelf.get(1, ALL);
        Due.is("out(0)", shelf.out(0), 0);
        Due.refusesIndex("out(1) behind a shorter read", () -> shelf.out(1));
    }
}
