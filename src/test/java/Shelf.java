/**
 * The class under test, called as the document allows: at most 512 times an object. A void call
 * answers 0 here and a boolean 1 or 0, so that all calls can be asked alike.
 */
final class Shelf {
    static final int MOST_CALLS = 512;

    private final ShareShelf shelf = new ShareShelf();
    private int calls = 0;

    int callsLeft() {
        return MOST_CALLS - calls;
    }

    private ShareShelf next() {
        if (calls == MOST_CALLS) {
            throw new AssertionError("this test makes call 513 on one object, which promises nothing");
        }
        calls++;
        return shelf;
    }

    long load(int i, int word) {
        next().load(i, word);
        return 0;
    }

    long put(int object, int n) {
        return next().put(object, n);
    }

    long cut(int messages) {
        next().cut(messages);
        return 0;
    }

    long settle(int object) {
        return next().settle(object) ? 1 : 0;
    }

    long get(int object, int mask) {
        return next().get(object, mask);
    }

    long out(int i) {
        return next().out(i);
    }

    long object(int object, int what) {
        return next().object(object, what);
    }

    long fail(int node) {
        next().fail(node);
        return 0;
    }

    long back(int node, boolean empty) {
        next().back(node, empty);
        return 0;
    }

    long rebuild(int node, int mask) {
        return next().rebuild(node, mask);
    }

    long node(int node, int what) {
        return next().node(node, what);
    }

    long share(int node, int object, int what) {
        return next().share(node, object, what);
    }

    long byteAt(int node, int object, int i) {
        return next().byteAt(node, object, i);
    }

    long field(int a, int b, int what) {
        return next().field(a, b, what);
    }
}
