import java.util.NoSuchElementException;

/** Promises 6 and 7: get and out. */
public final class GetOutTest {
    private static final int ALL = 4095;

    public static void main(String[] args) {
        anyFiveTellIt();
        allLengths();
        onlyLiveAndFreshOnesCount();
        readersAreChosenAnew();
        noBytes();
        stopped();
        wrongInputs();
        firstToldIsThrown();
        outIsWhatWasReadLast();
        outRefuses();
        Due.end();
    }

    private static void anyFiveTellIt() {
        ShareShelf shelf = new ShareShelf();
        int[] bytes = Code.someBytes(47, 8);
        Code.put(shelf, 4, bytes);
        for (int mask = 0; mask <= ALL; mask++) {
            int nodes = mask;
            if (Integer.bitCount(mask) == 5) {
                readOtherThenThis(shelf, mask, bytes);
            } else if (Integer.bitCount(mask) < 5) {
                Due.refusesSupport("get(4, " + nodes + ")", () -> shelf.get(4, nodes));
            } else {
                Due.is("get(4, " + mask + ")", shelf.get(4, mask), 47);
            }
        }
    }

    /** Reads something else between, so that what an earlier read left can not pass for this one. */
    private static void readOtherThenThis(ShareShelf shelf, int mask, int[] bytes) {
        if (shelf.object(5, 0) == 0) {
            Code.put(shelf, 5, Code.someBytes(240, 9));
        }
        shelf.get(5, ALL);
        Code.dueRead(shelf, 4, mask, bytes);
    }

    private static void allLengths() {
        ShareShelf shelf = new ShareShelf();
        for (int length = 1; length <= 240; length++) {
            int[] bytes = Code.someBytes(length, length);
            Code.put(shelf, length % 12, bytes);
            Code.dueRead(shelf, length % 12, 0b101010101010 >> (length % 2), bytes);
        }
    }

    private static void onlyLiveAndFreshOnesCount() {
        ShareShelf shelf = new ShareShelf();
        int[] old = Code.someBytes(90, 1);
        int[] bytes = Code.someBytes(90, 2);
        Code.put(shelf, 0, old);
        shelf.fail(0);
        shelf.fail(1);
        Code.put(shelf, 0, bytes);
        shelf.back(0, false);
        shelf.back(1, true);
        Code.dueRead(shelf, 0, ALL, bytes);
        Code.dueRead(shelf, 0, 0b1111111, bytes);
        Due.refusesSupport("two of six are old", () -> shelf.get(0, 0b111111));
        shelf.fail(6);
        Due.refusesSupport("one of seven has failed", () -> shelf.get(0, 0b1111111));
        Code.dueRead(shelf, 0, 0b11111111, bytes);
        for (int node = 7; node < 10; node++) {
            shelf.fail(node);
        }
        Code.dueRead(shelf, 0, ALL, bytes);
        shelf.fail(10);
        Code.dueRead(shelf, 0, ALL, bytes);
        shelf.fail(11);
        Due.refusesSupport("four are left", () -> shelf.get(0, ALL));
    }

    private static void readersAreChosenAnew() {
        ShareShelf shelf = new ShareShelf();
        int[] old = Code.someBytes(90, 1);
        int[] bytes = Code.someBytes(90, 2);
        Code.put(shelf, 0, old);
        Code.dueRead(shelf, 0, ALL, old);
        shelf.fail(2);
        Code.put(shelf, 0, bytes);
        shelf.back(2, false);
        Code.dueRead(shelf, 0, ALL, bytes);
    }

    private static void noBytes() {
        ShareShelf shelf = new ShareShelf();
        Due.refuses("get, never put", NoSuchElementException.class, () -> shelf.get(0, ALL));
        Code.put(shelf, 0, Code.someBytes(3, 3));
        shelf.put(0, 0);
        Due.refuses("get, removed", NoSuchElementException.class, () -> shelf.get(0, ALL));
        shelf.put(0, 3);
        Code.dueRead(shelf, 0, ALL, Code.someBytes(3, 3));
        shelf.cut(0);
        shelf.put(1, 5);
        shelf.settle(1);
        Due.refuses("get, put for nothing", NoSuchElementException.class, () -> shelf.get(1, ALL));
    }

    private static void stopped() {
        ShareShelf shelf = new ShareShelf();
        int[] bytes = Code.someBytes(35, 3);
        Code.put(shelf, 0, bytes);
        shelf.cut(0);
        shelf.put(0, 1);
        Due.refusesState("get of a stopped one", () -> shelf.get(0, ALL));
        shelf.settle(0);
        Code.dueRead(shelf, 0, ALL, bytes);
    }

    private static void wrongInputs() {
        ShareShelf shelf = new ShareShelf();
        shelf.put(0, 5);
        for (int object : new int[] {-1, 12, Integer.MIN_VALUE, Integer.MAX_VALUE}) {
            Due.refusesIndex("get(" + object + ", 4095)", () -> shelf.get(object, ALL));
        }
        for (int mask : new int[] {-1, 4096, 8191, 1 << 30, Integer.MIN_VALUE}) {
            Due.refusesArgument("get(0, " + mask + ")", () -> shelf.get(0, mask));
        }
        Due.refusesSupport("get(0, 0)", () -> shelf.get(0, 0));
    }

    private static void firstToldIsThrown() {
        ShareShelf shelf = new ShareShelf();
        shelf.cut(0);
        shelf.put(0, 5);
        Due.refusesIndex("get(12, 4096)", () -> shelf.get(12, 4096));
        Due.refusesArgument("get(0, 4096)", () -> shelf.get(0, 4096));
        Due.refusesState("get(0, 0)", () -> shelf.get(0, 0));
        Due.refuses("get(1, 0)", NoSuchElementException.class, () -> shelf.get(1, 0));
    }

    private static void outIsWhatWasReadLast() {
        ShareShelf shelf = new ShareShelf();
        int[] bytes = Code.someBytes(50, 4);
        Code.put(shelf, 0, bytes);
        Code.put(shelf, 1, Code.someBytes(9, 5));
        Code.dueRead(shelf, 0, ALL, bytes);
        Code.put(shelf, 0, Code.someBytes(20, 6));
        shelf.fail(0);
        Due.refuses("get(2, 4095)", NoSuchElementException.class, () -> shelf.get(2, ALL));
        Due.refusesSupport("get(1, 3)", () -> shelf.get(1, 3));
        shelf.back(0, true);
        shelf.rebuild(0, ALL);
        for (int i = 0; i < 50; i++) {
            Due.is("out(" + i + ")", shelf.out(i), bytes[i]);
        }
        Due.refusesIndex("out(50)", () -> shelf.out(50));
        Code.dueRead(shelf, 1, ALL, Code.someBytes(9, 5));
    }

    private static void outRefuses() {
        ShareShelf shelf = new ShareShelf();
        Due.refusesIndex("out(0) before a read", () -> shelf.out(0));
        shelf.put(0, 240);
        Due.refusesIndex("out(0) behind a put", () -> shelf.out(0));
        shelf.get(0, ALL);
        for (int i : new int[] {-1, 240, Integer.MIN_VALUE, Integer.MAX_VALUE}) {
            Due.refusesIndex("out(" + i + ")", () -> shelf.out(i));
        }
    }
}
