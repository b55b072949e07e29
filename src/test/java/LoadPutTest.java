/** Promises 2 and 3: load and put. */
public final class LoadPutTest {
    private static final int[] EDGES = {
        1, 2, 14, 15, 16, 29, 30, 31, 59, 60, 61, 89, 90, 91, 119, 120, 121, 150, 180, 209, 210,
        211, 239, 240
    };

    public static void main(String[] args) {
        loadsHighestByteFirst();
        loadRefuses();
        lengthsAtEdges();
        versionsGoUp();
        removes();
        whatWasLoadedStays();
        nodesThatFailedGetNothing();
        putRefuses();
        firstToldIsThrown();
        Due.end();
    }

    private static void loadsHighestByteFirst() {
        ShareShelf shelf = new ShareShelf();
        shelf.load(0, 0x01FF8003);
        shelf.load(1, 0x80000000);
        shelf.load(59, 0x7F0000FE);
        shelf.put(5, 240);
        int[] due = new int[240];
        due[0] = 0x01;
        due[1] = 0xFF;
        due[2] = 0x80;
        due[3] = 0x03;
        due[4] = 0x80;
        due[236] = 0x7F;
        due[239] = 0xFE;
        Code.dueRead(shelf, 5, 4095, due);
    }

    private static void loadRefuses() {
        ShareShelf shelf = new ShareShelf();
        for (int i : new int[] {-1, 60, 61, Integer.MIN_VALUE, Integer.MAX_VALUE}) {
            Due.refusesIndex("load(" + i + ", 1)", () -> loadOf(shelf, i));
        }
        for (int i = 0; i < 60; i++) {
            shelf.load(i, 1);
        }
    }

    private static long loadOf(ShareShelf shelf, int i) {
        shelf.load(i, 1);
        return 0;
    }

    private static void lengthsAtEdges() {
        for (int length : EDGES) {
            ShareShelf shelf = new ShareShelf();
            // What a longer put left behind must not show in a shorter one.
            Code.put(shelf, 11, Code.someBytes(240, 99));
            int[] bytes = Code.someBytes(length, length);
            Due.is("put(11, " + length + ")", Code.put(shelf, 11, bytes), 2);
            Due.is("object(11, 0)", shelf.object(11, 0), 2);
            Due.is("object(11, 1)", shelf.object(11, 1), length);
            Due.is("object(11, 2)", shelf.object(11, 2), 0);
            for (int node = 0; node < 12; node++) {
                Code.dueShare(shelf, node, 11, 2, bytes);
                Due.is("node(" + node + ", 3)", shelf.node(node, 3), 0);
            }
        }
    }

    private static void versionsGoUp() {
        ShareShelf shelf = new ShareShelf();
        for (int version = 1; version <= 20; version++) {
            Due.is("put(3, 1)", shelf.put(3, 1), version);
        }
        Due.is("put(4, 1)", shelf.put(4, 1), 1);
        shelf.cut(0);
        Due.is("put(4, 1) that stops at once", shelf.put(4, 1), 2);
        Due.is("settle(4)", shelf.settle(4) ? 1 : 0, 0);
        Due.is("put(4, 1) behind it", shelf.put(4, 1), 3);
    }

    private static void removes() {
        ShareShelf shelf = new ShareShelf();
        Code.put(shelf, 2, Code.someBytes(70, 3));
        Due.is("put(2, 0)", shelf.put(2, 0), 2);
        Due.is("object(2, 0)", shelf.object(2, 0), 2);
        Due.is("object(2, 1)", shelf.object(2, 1), 0);
        for (int node = 0; node < 12; node++) {
            Code.dueShare(shelf, node, 2, 2, new int[0]);
            Due.is("node(" + node + ", 2)", shelf.node(node, 2), 12);
        }
        Due.is("put(2, 70)", shelf.put(2, 70), 3);
        Code.dueRead(shelf, 2, 4095, Code.someBytes(70, 3));
    }

    private static void whatWasLoadedStays() {
        ShareShelf shelf = new ShareShelf();
        int[] bytes = Code.someBytes(240, 5);
        Code.load(shelf, bytes);
        shelf.put(0, 240);
        shelf.put(1, 17);
        shelf.load(2, 0);
        shelf.put(2, 240);
        Code.dueRead(shelf, 0, 4095, bytes);
        Code.dueRead(shelf, 1, 4095, java.util.Arrays.copyOf(bytes, 17));
        java.util.Arrays.fill(bytes, 8, 12, 0);
        Code.dueRead(shelf, 2, 4095, bytes);
    }

    private static void nodesThatFailedGetNothing() {
        ShareShelf shelf = new ShareShelf();
        int[] first = Code.someBytes(33, 1);
        int[] second = Code.someBytes(95, 2);
        Code.put(shelf, 6, first);
        shelf.fail(0);
        shelf.fail(7);
        shelf.fail(11);
        Due.is("put by nine nodes", Code.put(shelf, 6, second), 2);
        for (int node = 0; node < 12; node++) {
            boolean old = node == 0 || node == 7 || node == 11;
            Code.dueShare(shelf, node, 6, old ? 1 : 2, old ? first : second);
        }
    }

    private static void putRefuses() {
        ShareShelf shelf = new ShareShelf();
        for (int object : new int[] {-1, 12, Integer.MIN_VALUE, Integer.MAX_VALUE}) {
            Due.refusesIndex("put(" + object + ", 1)", () -> shelf.put(object, 1));
        }
        for (int n : new int[] {-1, 241, Integer.MIN_VALUE, Integer.MAX_VALUE}) {
            Due.refusesArgument("put(0, " + n + ")", () -> shelf.put(0, n));
        }
        shelf.cut(3);
        shelf.put(0, 9);
        Due.refusesState("put(0, 9) while stopped", () -> shelf.put(0, 9));
        Due.is("put(1, 9) while 0 is stopped", shelf.put(1, 9), 1);
        for (int node = 0; node < 3; node++) {
            shelf.fail(node);
        }
        Due.is("put(1, 9) by nine", shelf.put(1, 9), 2);
        shelf.fail(3);
        Due.refusesSupport("put(1, 9) by eight", () -> shelf.put(1, 9));
        Due.refusesSupport("put(1, 0) by eight", () -> shelf.put(1, 0));
        Due.is("object(1, 0)", shelf.object(1, 0), 2);
        shelf.back(3, true);
        Due.is("put(1, 9) by nine again", shelf.put(1, 9), 3);
    }

    private static void firstToldIsThrown() {
        ShareShelf shelf = new ShareShelf();
        shelf.cut(0);
        shelf.put(0, 1);
        for (int node = 0; node < 4; node++) {
            shelf.fail(node);
        }
        Due.refusesIndex("put(12, 241)", () -> shelf.put(12, 241));
        Due.refusesArgument("put(0, 241)", () -> shelf.put(0, 241));
        Due.refusesState("put(0, 1)", () -> shelf.put(0, 1));
        Due.refusesSupport("put(1, 1)", () -> shelf.put(1, 1));
    }
}
