import java.util.function.Supplier;

/** Promises 4 and 5: cut and settle, and what the terms say of a put's messages and of settling. */
public final class CutSettleTest {
    private static final int ALL = 4095;
    private static final int[] OLD = Code.someBytes(31, 1);
    private static final int[] NEW = Code.someBytes(62, 2);
    private static final int[][] FAILED = {{}, {4}, {0, 11}, {1, 2, 3}, {9, 10, 11}};

    public static void main(String[] args) {
        everyCut();
        aStoppedObjectStaysSo();
        cutIsForTheNextPut();
        aCutThatStopsNothingIsUsedUp();
        aPutThatThrowsLeavesTheCut();
        theLastCutCounts();
        cutRefuses();
        everySettling();
        aFailedNodesShareCounts();
        anEmptiedNodesShareDoesNot();
        settlingReachesLiveNodesAlone();
        settlingDropsShadows();
        aStoppedRemovalIsSettled();
        settleRefusesOtherObjects();
        settleRefusesWhatIsNotStopped();
        Due.end();
    }

    private static Shelf stopped(int messages, int... failed) {
        Shelf shelf = new Shelf();
        Code.put(shelf, 9, OLD);
        for (int node : failed) {
            shelf.fail(node);
        }
        shelf.cut(messages);
        Due.is("put that is cut behind " + messages, Code.put(shelf, 9, NEW), 2);
        return shelf;
    }

    private static void everyCut() {
        for (int[] failed : FAILED) {
            for (int messages = 0; messages < 24; messages++) {
                Shelf shelf = stopped(messages, failed);
                int live = 12 - failed.length;
                boolean stops = messages < 2 * live;
                String at = " behind " + messages + " messages to " + live;
                Due.sentence("Promise 4: The next put stops behind so many messages, if it has more.");
                Due.is("stopped" + at, shelf.object(9, 2), stops ? 1 : 0);
                Due.sentence("Terms: Behind the last one that version is the newest.");
                Due.is("newest" + at, shelf.object(9, 0), stops ? 1 : 2);
                Due.is("length" + at, shelf.object(9, 1), stops ? OLD.length : NEW.length);
                afterMessages(shelf, stops ? messages : 2 * live, live);
            }
        }
    }

    private static void afterMessages(Shelf shelf, int messages, int live) {
        Due.sentence("Terms: to each live node, by their numbers, the shadow; then to each of "
                + "these again");
        int place = 0;
        for (int node = 0; node < 12; node++) {
            if (shelf.node(node, 0) == 0) {
                Due.is("shadows of a failed node", shelf.node(node, 3), 0);
                Code.dueShare(shelf, node, 9, 1, OLD);
                continue;
            }
            boolean turned = messages - live > place;
            boolean shadow = !turned && messages > place;
            Due.is("shadows of node " + node, shelf.node(node, 3), shadow ? 1 : 0);
            Code.dueShare(shelf, node, 9, turned ? 2 : 1, turned ? NEW : OLD);
            place++;
        }
    }

    private static void aStoppedObjectStaysSo() {
        Due.sentence("Terms: It can be made to STOP behind some messages: the object is stopped then.");
        for (int messages : new int[] {0, 1, 11, 12, 13, 23}) {
            Shelf shelf = stopped(messages);
            shelf.put(8, 5);
            shelf.cut(23);
            for (int node = 0; node < 12; node++) {
                shelf.fail(node);
                shelf.back(node, false);
            }
            shelf.rebuild(0, ALL);
            Due.is("object(9, 2)", shelf.object(9, 2), 1);
            Due.is("object(8, 2), another one", shelf.object(8, 2), 0);
            Due.is("object(9, 0)", shelf.object(9, 0), 1);
            Due.refusesState("put(9, 1)", () -> shelf.put(9, 1));
            Due.refusesState("get(9, 4095)", () -> shelf.get(9, ALL));
            Due.is("settle(9)", shelf.settle(9), messages > 12 ? 1 : 0);
            Due.is("object(9, 2) when settled", shelf.object(9, 2), 0);
        }
    }

    private static void cutIsForTheNextPut() {
        Due.sentence("Promise 4: The next put");
        Shelf shelf = new Shelf();
        shelf.put(0, 5);
        shelf.cut(1);
        Due.is("a put before stays as it was", shelf.object(0, 2), 0);
        shelf.get(0, ALL);
        shelf.fail(11);
        shelf.back(11, true);
        shelf.rebuild(11, ALL);
        shelf.put(1, 5);
        shelf.put(2, 5);
        Due.is("the next put stops", shelf.object(1, 2), 1);
        Due.is("the one behind it does not", shelf.object(2, 2), 0);
        shelf.settle(1);
        shelf.put(1, 5);
        Due.is("nor does one when it is settled", shelf.object(1, 2), 0);
    }

    private static void aCutThatStopsNothingIsUsedUp() {
        Due.sentence("Promise 4: With as many or fewer it counts for that put all the same");
        for (int failed = 1; failed <= 3; failed++) {
            for (int messages = 2 * (12 - failed); messages < 24; messages++) {
                Shelf shelf = new Shelf();
                for (int node = 0; node < failed; node++) {
                    shelf.fail(node);
                }
                shelf.cut(messages);
                shelf.put(2, 5);
                String cut = "cut(" + messages + "), " + failed + " failed: ";
                Due.is(cut + "the put stops", shelf.object(2, 2), 0);
                Due.is(cut + "newest", shelf.object(2, 0), 1);
                for (int node = 0; node < failed; node++) {
                    shelf.back(node, false);
                }
                shelf.put(2, 5);
                Due.is(cut + "the next put, to twelve, stops", shelf.object(2, 2), 0);
            }
        }
    }

    private static void aPutThatThrowsLeavesTheCut() {
        Due.sentence("Promise 4: one that throws leaves it.");
        Supplier<Shelf> history = () -> {
            Shelf shelf = new Shelf();
            shelf.cut(12);
            shelf.put(0, 5);
            shelf.cut(2);
            return shelf;
        };
        Shelf byIndex = history.get();
        Due.refusesIndex("put(12, 5)", () -> byIndex.put(12, 5));
        dueCutBehindTwo(byIndex);
        Shelf byArgument = history.get();
        Due.refuses("put(1, 241)", IllegalArgumentException.class, () -> byArgument.put(1, 241));
        dueCutBehindTwo(byArgument);
        Shelf byState = history.get();
        Due.refusesState("put(0, 5)", () -> byState.put(0, 5));
        dueCutBehindTwo(byState);
        Shelf bySupport = history.get();
        for (int node = 8; node < 12; node++) {
            bySupport.fail(node);
        }
        Due.refusesSupport("put(1, 5)", () -> bySupport.put(1, 5));
        bySupport.back(8, false);
        dueCutBehindTwo(bySupport);
    }

    private static void dueCutBehindTwo(Shelf shelf) {
        Due.is("put(1, 5)", shelf.put(1, 5), 1);
        Due.is("it stops", shelf.object(1, 2), 1);
        Due.is("node(1, 3)", shelf.node(1, 3), 2);
        Due.is("node(2, 3)", shelf.node(2, 3), 1);
    }

    private static void theLastCutCounts() {
        Due.sentence("Promise 4: The next put stops behind so many messages");
        for (int first : new int[] {0, 20, 23}) {
            Shelf shelf = new Shelf();
            shelf.cut(first);
            shelf.cut(3);
            shelf.put(0, 5);
            Due.is("stopped", shelf.object(0, 2), 1);
            Due.is("node(2, 3)", shelf.node(2, 3), 1);
            Due.is("node(3, 3)", shelf.node(3, 3), 0);
            shelf.put(1, 5);
            Due.is("no cut is left", shelf.object(1, 2), 0);
        }
    }

    private static void cutRefuses() {
        Due.sentence("Promise 4: IllegalArgumentException, when it is not 0 .. 23.");
        for (int messages : new int[] {-1, 24, 25, Integer.MIN_VALUE, Integer.MAX_VALUE}) {
            String call = "cut(" + messages + ")";
            Refused.argument(Refused::busy, call, s -> s.cut(messages));
            Refused.argument(Shelf::new, call, s -> s.cut(messages));
        }
        Due.is("cut(0)", new Shelf().cut(0), 0);
        Due.is("cut(23)", new Shelf().cut(23), 0);
    }

    private static void everySettling() {
        for (int[] failed : FAILED) {
            int live = 12 - failed.length;
            for (int messages = 0; messages < 2 * live; messages++) {
                Shelf shelf = stopped(messages, failed);
                boolean counts = messages > live;
                String at = "settle(9) behind " + messages + " messages to " + live;
                Due.sentence("Promise 5: Settles an object: whether its stopped put counts.");
                Due.is(at, shelf.settle(9), counts ? 1 : 0);
                afterSettling(shelf, counts);
            }
        }
    }

    private static void afterSettling(Shelf shelf, boolean counts) {
        Due.sentence("Terms: each live node with a shadow of it makes it its share, and that "
                + "version is the newest; else it is not.");
        Due.is("newest", shelf.object(9, 0), counts ? 2 : 1);
        Due.is("length", shelf.object(9, 1), counts ? NEW.length : OLD.length);
        Due.is("stopped", shelf.object(9, 2), 0);
        for (int node = 0; node < 12; node++) {
            boolean isNew = counts && shelf.node(node, 0) == 1;
            Code.dueShare(shelf, node, 9, isNew ? 2 : 1, isNew ? NEW : OLD);
            Due.is("shadows of node " + node, shelf.node(node, 3), 0);
        }
        Code.dueRead(shelf, 9, ALL, counts ? NEW : OLD);
        Due.is("the next put", shelf.put(9, 1), 3);
    }

    private static void aFailedNodesShareCounts() {
        Due.sentence("Terms: when some node has a share of the stopped put's version");
        Shelf shelf = stopped(13);
        shelf.fail(0);
        Due.is("settle(9), node 0 failed with its share", shelf.settle(9), 1);
        for (int node = 0; node < 12; node++) {
            Code.dueShare(shelf, node, 9, 2, NEW);
        }
        shelf.back(0, false);
        Due.is("node 0 is fresh", shelf.node(0, 2), 12);
    }

    private static void anEmptiedNodesShareDoesNot() {
        Shelf shelf = stopped(13);
        shelf.fail(0);
        shelf.back(0, true);
        Due.is("settle(9), node 0 emptied", shelf.settle(9), 0);
        Code.dueShare(shelf, 0, 9, 0, new int[0]);
        for (int node = 1; node < 12; node++) {
            Code.dueShare(shelf, node, 9, 1, OLD);
            Due.is("node(" + node + ", 3)", shelf.node(node, 3), 0);
        }
        Due.is("put", shelf.put(9, 1), 3);
    }

    private static void settlingReachesLiveNodesAlone() {
        Due.sentence("Terms: each live node with a shadow of it makes it its share");
        Shelf shelf = stopped(14);
        shelf.fail(5);
        shelf.fail(6);
        shelf.back(6, false);
        Due.is("settle(9)", shelf.settle(9), 1);
        Code.dueShare(shelf, 5, 9, 1, OLD);
        Code.dueShare(shelf, 6, 9, 1, OLD);
        Code.dueShare(shelf, 7, 9, 2, NEW);
        shelf.back(5, false);
        Due.is("node(5, 3)", shelf.node(5, 3), 0);
        Code.dueShare(shelf, 5, 9, 1, OLD);

        for (int messages : new int[] {0, 12, 13, 23}) {
            Shelf dead = stopped(messages);
            for (int node = 0; node < 12; node++) {
                dead.fail(node);
            }
            boolean counts = messages > 12;
            Due.is("settle(9) by none live, " + messages, dead.settle(9), counts ? 1 : 0);
            Due.is("object(9, 0)", dead.object(9, 0), counts ? 2 : 1);
            Due.is("object(9, 2)", dead.object(9, 2), 0);
            Due.is("share(0, 9, 0)", dead.share(0, 9, 0), counts ? 2 : 1);
            Due.is("share(11, 9, 0)", dead.share(11, 9, 0), 1);
        }
    }

    private static void settlingDropsShadows() {
        Due.sentence("Terms: The shadows of all live nodes are gone, and the object is not stopped "
                + "any more.");
        Shelf shelf = new Shelf();
        for (int object = 0; object < 12; object++) {
            shelf.cut(object + 8);
            Code.put(shelf, object, Code.someBytes(4 * object, object));
        }
        Due.is("node(0, 3)", shelf.node(0, 3), 5);
        Due.is("node(11, 3)", shelf.node(11, 3), 8);
        Due.is("settle(0)", shelf.settle(0), 0);
        Due.is("node(0, 3) then", shelf.node(0, 3), 4);
        Due.is("object(0, 2)", shelf.object(0, 2), 0);
        Due.is("object 1 is still stopped", shelf.object(1, 2), 1);
        for (int object = 1; object < 12; object++) {
            Due.is("settle(" + object + ")", shelf.settle(object), object > 4 ? 1 : 0);
            Due.is("object(" + object + ", 2)", shelf.object(object, 2), 0);
        }
        for (int node = 0; node < 12; node++) {
            Due.is("node(" + node + ", 3)", shelf.node(node, 3), 0);
        }
        for (int object = 5; object < 12; object++) {
            Code.dueRead(shelf, object, ALL, Code.someBytes(4 * object, object));
        }
    }

    private static void aStoppedRemovalIsSettled() {
        Due.sentence("Promise 5: whether its stopped put counts.");
        for (int messages : new int[] {0, 12, 13, 23}) {
            Shelf shelf = new Shelf();
            Code.put(shelf, 9, OLD);
            shelf.cut(messages);
            shelf.put(9, 0);
            boolean counts = messages > 12;
            Due.is("settle(9), " + messages, shelf.settle(9), counts ? 1 : 0);
            Due.is("object(9, 0)", shelf.object(9, 0), counts ? 2 : 1);
            Due.is("object(9, 1)", shelf.object(9, 1), counts ? 0 : OLD.length);
            for (int node = 0; node < 12; node++) {
                Code.dueShare(shelf, node, 9, counts ? 2 : 1, counts ? new int[0] : OLD);
            }
            Due.is("get(9, 4095)", Due.answerOf(() -> shelf.get(9, ALL)),
                    counts ? "java.util.NoSuchElementException" : "31");
        }
    }

    private static void settleRefusesOtherObjects() {
        Due.sentence("Promise 5: IndexOutOfBoundsException, when there is no such object");
        for (int object : new int[] {-1, 12, 13, Integer.MIN_VALUE, Integer.MAX_VALUE}) {
            Refused.index(Refused::busy, "settle(" + object + ")", s -> s.settle(object));
        }
    }

    private static void settleRefusesWhatIsNotStopped() {
        Due.sentence("Promise 5: IllegalStateException, when it is not stopped.");
        Refused.state(Refused::busy, "settle(0), put", s -> s.settle(0));
        Refused.state(Refused::busy, "settle(2), removed", s -> s.settle(2));
        Refused.state(Refused::busy, "settle(11), never put", s -> s.settle(11));
        for (int messages : new int[] {0, 13}) {
            Shelf shelf = stopped(messages);
            shelf.settle(9);
            Due.refusesState("settle(9) again", () -> shelf.settle(9));
        }
    }
}
