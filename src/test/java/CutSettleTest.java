/** Promises 4 and 5: cut and settle. */
public final class CutSettleTest {
    private static final int[] OLD = Code.someBytes(61, 1);
    private static final int[] NEW = Code.someBytes(100, 2);

    public static void main(String[] args) {
        everyCut(new int[] {});
        everyCut(new int[] {4});
        everyCut(new int[] {0, 11});
        everyCut(new int[] {1, 2, 3});
        cutIsForOnePut();
        cutStaysWhenPutThrows();
        lastCutCounts();
        cutRefuses();
        settleRefuses();
        settleIsForOneObject();
        aFailedNodesShareCounts();
        anEmptiedNodesShareDoesNot();
        nodesThatMissedSettlingStayOld();
        nodesThatCameBackHaveNoShadow();
        aStoppedRemovalCounts();
        Due.end();
    }

    /** Stops a put behind every count of messages, with some nodes failed, and settles it. */
    private static void everyCut(int[] failed) {
        for (int messages = 0; messages < 24; messages++) {
            ShareShelf shelf = new ShareShelf();
            Code.put(shelf, 9, OLD);
            for (int node : failed) {
                shelf.fail(node);
            }
            int live = 12 - failed.length;
            shelf.cut(messages);
            Due.is("put that stops", Code.put(shelf, 9, NEW), 2);
            boolean stops = messages < 2 * live;
            String at = " behind " + messages + " messages to " + live;
            Due.is("stopped" + at, shelf.object(9, 2), stops ? 1 : 0);
            Due.is("newest" + at, shelf.object(9, 0), stops ? 1 : 2);
            Due.is("length" + at, shelf.object(9, 1), stops ? OLD.length : NEW.length);
            afterMessages(shelf, stops ? messages : 2 * live, live);
            if (stops) {
                boolean counts = messages > live;
                Due.is("settle" + at, shelf.settle(9) ? 1 : 0, counts ? 1 : 0);
                afterSettling(shelf, counts);
            }
        }
    }

    private static void afterMessages(ShareShelf shelf, int messages, int live) {
        int place = 0;
        for (int node = 0; node < 12; node++) {
            if (shelf.node(node, 0) == 0) {
                Due.is("shadows of a failed node", shelf.node(node, 3), 0);
                Code.dueShare(shelf, node, 9, 1, OLD);
                continue;
            }
            boolean turned = messages - live > place;
            boolean shadow = !turned && messages > place;
            Due.is("shadows of node " + node, shelf.node(node, 3), shadow ? 1 : 0);
            Code.dueShare(shelf, node, 9, turned ? 2 : 1, turned ? NEW : OLD);
            place++;
        }
    }

    private static void afterSettling(ShareShelf shelf, boolean counts) {
        Due.is("stopped", shelf.object(9, 2), 0);
        Due.is("newest", shelf.object(9, 0), counts ? 2 : 1);
        Due.is("length", shelf.object(9, 1), counts ? NEW.length : OLD.length);
        for (int node = 0; node < 12; node++) {
            boolean isNew = counts && shelf.node(node, 0) == 1;
            Code.dueShare(shelf, node, 9, isNew ? 2 : 1, isNew ? NEW : OLD);
            Due.is("shadows of node " + node, shelf.node(node, 3), 0);
        }
        Code.dueRead(shelf, 9, 4095, counts ? NEW : OLD);
        Due.is("the next put", Code.put(shelf, 9, OLD), 3);
    }

    private static void cutIsForOnePut() {
        ShareShelf shelf = new ShareShelf();
        shelf.cut(1);
        shelf.put(0, 5);
        shelf.put(1, 5);
        Due.is("the first put stops", shelf.object(0, 2), 1);
        Due.is("the second does not", shelf.object(1, 2), 0);

        shelf.fail(0);
        shelf.cut(22);
        shelf.put(2, 5);
        Due.is("22 of 22 messages", shelf.object(2, 2), 0);
        shelf.back(0, true);
        shelf.put(2, 5);
        Due.is("that cut was for the put before", shelf.object(2, 2), 0);

        for (int node = 0; node < 3; node++) {
            shelf.fail(node);
        }
        shelf.cut(23);
        shelf.put(2, 5);
        Due.is("23, and 18 messages", shelf.object(2, 2), 0);
        shelf.put(2, 5);
        Due.is("that cut is used up too", shelf.object(2, 2), 0);
    }

    private static void cutStaysWhenPutThrows() {
        ShareShelf shelf = new ShareShelf();
        shelf.cut(12);
        shelf.put(0, 5);
        shelf.cut(2);
        Due.refusesIndex("put(12, 5)", () -> shelf.put(12, 5));
        Due.refusesArgument("put(1, 241)", () -> shelf.put(1, 241));
        Due.refusesState("put(0, 5)", () -> shelf.put(0, 5));
        for (int node = 0; node < 4; node++) {
            shelf.fail(node);
        }
        Due.refusesSupport("put(1, 5)", () -> shelf.put(1, 5));
        shelf.back(0, false);
        Due.is("put(1, 5)", shelf.put(1, 5), 1);
        Due.is("it stops", shelf.object(1, 2), 1);
        Due.is("node(4, 3)", shelf.node(4, 3), 2);
        Due.is("node(5, 3)", shelf.node(5, 3), 1);
    }

    private static void lastCutCounts() {
        ShareShelf shelf = new ShareShelf();
        shelf.cut(20);
        shelf.cut(3);
        Due.refusesArgument("cut(24)", () -> cutOf(shelf, 24));
        shelf.put(0, 5);
        Due.is("stopped", shelf.object(0, 2), 1);
        Due.is("node(2, 3)", shelf.node(2, 3), 1);
        Due.is("node(3, 3)", shelf.node(3, 3), 0);
    }

    private static void cutRefuses() {
        ShareShelf shelf = new ShareShelf();
        for (int messages : new int[] {-1, 24, 25, Integer.MIN_VALUE, Integer.MAX_VALUE}) {
            Due.refusesArgument("cut(" + messages + ")", () -> cutOf(shelf, messages));
        }
        shelf.put(0, 5);
        Due.is("a cut that throws cuts nothing", shelf.object(0, 2), 0);
    }

    private static long cutOf(ShareShelf shelf, int messages) {
        shelf.cut(messages);
        return 0;
    }

    private static void settleRefuses() {
        ShareShelf shelf = new ShareShelf();
        for (int object : new int[] {-1, 12, Integer.MIN_VALUE, Integer.MAX_VALUE}) {
            Due.refusesIndex("settle(" + object + ")", () -> shelf.settle(object) ? 1 : 0);
        }
        Due.refusesState("settle(0)", () -> shelf.settle(0) ? 1 : 0);
        shelf.cut(0);
        shelf.put(0, 5);
        Due.refusesState("settle(1)", () -> shelf.settle(1) ? 1 : 0);
        shelf.settle(0);
        Due.refusesState("settle(0) again", () -> shelf.settle(0) ? 1 : 0);
    }

    private static void settleIsForOneObject() {
        ShareShelf shelf = new ShareShelf();
        for (int object = 0; object < 12; object++) {
            shelf.cut(object + 8);
            Code.put(shelf, object, Code.someBytes(20 * object, object));
        }
        Due.is("node(0, 3)", shelf.node(0, 3), 5);
        Due.is("node(11, 3)", shelf.node(11, 3), 8);
        Due.is("settle(0)", shelf.settle(0) ? 1 : 0, 0);
        Due.is("node(0, 3) then", shelf.node(0, 3), 4);
        Due.is("object 1 is still stopped", shelf.object(1, 2), 1);
        for (int object = 1; object < 12; object++) {
            Due.is("settle(" + object + ")", shelf.settle(object) ? 1 : 0, object > 4 ? 1 : 0);
        }
        for (int object = 5; object < 12; object++) {
            Code.dueRead(shelf, object, 4095, Code.someBytes(20 * object, object));
        }
    }

    private static ShareShelf stopped(int messages) {
        ShareShelf shelf = new ShareShelf();
        Code.put(shelf, 9, OLD);
        shelf.cut(messages);
        Code.put(shelf, 9, NEW);
        return shelf;
    }

    private static void aFailedNodesShareCounts() {
        ShareShelf shelf = stopped(13);
        shelf.fail(0);
        Due.is("settle, node 0 failed with its share", shelf.settle(9) ? 1 : 0, 1);
        for (int node = 0; node < 12; node++) {
            Code.dueShare(shelf, node, 9, 2, NEW);
        }
        shelf.back(0, false);
        Due.is("node 0 is fresh", shelf.node(0, 2), 12);
    }

    private static void anEmptiedNodesShareDoesNot() {
        ShareShelf shelf = stopped(13);
        shelf.fail(0);
        shelf.back(0, true);
        Due.is("settle, node 0 emptied", shelf.settle(9) ? 1 : 0, 0);
        Code.dueShare(shelf, 0, 9, 0, new int[0]);
        for (int node = 1; node < 12; node++) {
            Code.dueShare(shelf, node, 9, 1, OLD);
            Due.is("node(" + node + ", 3)", shelf.node(node, 3), 0);
        }
        Due.is("put", Code.put(shelf, 9, NEW), 3);
    }

    private static void nodesThatMissedSettlingStayOld() {
        ShareShelf shelf = stopped(14);
        shelf.fail(5);
        Due.is("settle", shelf.settle(9) ? 1 : 0, 1);
        Code.dueShare(shelf, 5, 9, 1, OLD);
        shelf.back(5, false);
        Due.is("node(5, 3)", shelf.node(5, 3), 0);
        Code.dueShare(shelf, 5, 9, 1, OLD);
    }

    private static void nodesThatCameBackHaveNoShadow() {
        ShareShelf shelf = stopped(14);
        shelf.fail(5);
        shelf.back(5, false);
        shelf.fail(1);
        shelf.back(1, false);
        Due.is("settle", shelf.settle(9) ? 1 : 0, 1);
        Code.dueShare(shelf, 5, 9, 1, OLD);
        Code.dueShare(shelf, 1, 9, 2, NEW);
        Code.dueShare(shelf, 6, 9, 2, NEW);
    }

    private static void aStoppedRemovalCounts() {
        ShareShelf shelf = new ShareShelf();
        Code.put(shelf, 9, OLD);
        shelf.cut(16);
        Due.is("put(9, 0)", shelf.put(9, 0), 2);
        Due.is("node(4, 3)", shelf.node(4, 3), 1);
        Due.is("settle(9)", shelf.settle(9) ? 1 : 0, 1);
        Due.is("object(9, 0)", shelf.object(9, 0), 2);
        Due.is("object(9, 1)", shelf.object(9, 1), 0);
        for (int node = 0; node < 12; node++) {
            Code.dueShare(shelf, node, 9, 2, new int[0]);
        }
    }
}
