import java.util.Random;

/** All promises together: long mixed runs, each call beside the model's, seeded and so repeatable. */
public final class ModelTest {
    private static final int RUNS = 4000;
    private static final int CALLS_FOR_THE_END = 150;
    private static final int[] LENGTHS = {0, 0, 1, 15, 29, 30, 31, 60, 61, 239, 240, 241, -1};

    private final Random random;
    private final Shelf shelf = new Shelf();
    private final Model model = new Model();
    private final String run;
    private final int objects;
    private final int wildness;
    private int marked = 0;

    private ModelTest(int seed) {
        random = new Random(seed);
        run = "run " + seed + ": ";
        // Few objects make runs in which much happens to each of them.
        objects = seed % 3 == 0 ? 12 : 1 + seed % 3;
        // Rare failures leave room for puts, frequent ones for what lacks nodes.
        wildness = seed % 4;
    }

    public static void main(String[] args) {
        for (int seed = 1; seed <= RUNS; seed++) {
            ModelTest test = new ModelTest(seed);
            while (test.shelf.callsLeft() > CALLS_FOR_THE_END) {
                test.step();
            }
            test.lookAround();
        }
        Due.end();
    }

    private void same(String call, Due.Call got, Due.Call due) {
        Due.is(run + call, Due.answerOf(got), Due.answerOf(due));
    }

    private int below(int count) {
        return random.nextInt(count);
    }

    /** Mostly a good index, now and then one beside the edge. */
    private int index(int count) {
        return below(40) == 0 ? (below(2) == 0 ? -1 : count) : below(count);
    }

    /** Often the node that failed last, so that it comes back and is rebuilt in time. */
    private int markedOrAny() {
        return below(2) == 0 ? marked : index(12);
    }

    private int someObject() {
        return below(40) == 0 ? index(12) : below(objects);
    }

    private int mask() {
        int kind = below(20);
        if (kind == 0) {
            return random.nextInt();
        }
        if (kind < 10) {
            return 4095;
        }
        // Most bits set, so that five and eight are met and missed about as often.
        return (random.nextInt() | random.nextInt()) & 4095;
    }

    private void step() {
        int kind = below(100);
        if (kind < 22) {
            change(kind);
        } else if (kind < 60) {
            use(kind);
        } else {
            look(kind);
        }
    }

    private void change(int kind) {
        if (kind < 8) {
            int i = index(60);
            int word = random.nextInt();
            same("load(" + i + ", " + word + ")",
                    () -> shelf.load(i, word), () -> model.load(i, word));
        } else if (kind < 14) {
            int messages = below(30) - 2;
            same("cut(" + messages + ")",
                    () -> shelf.cut(messages), () -> model.cut(messages));
        } else if (kind < 17 && below(4) <= wildness) {
            int node = index(12);
            marked = node;
            same("fail(" + node + ")",
                    () -> shelf.fail(node), () -> model.fail(node));
        } else {
            int node = markedOrAny();
            boolean empty = below(2) == 0;
            same("back(" + node + ", " + empty + ")",
                    () -> shelf.back(node, empty), () -> model.back(node, empty));
        }
    }

    private void use(int kind) {
        int object = someObject();
        if (kind < 34) {
            int n = below(3) == 0 ? LENGTHS[below(LENGTHS.length)] : below(241);
            same("put(" + object + ", " + n + ")",
                    () -> shelf.put(object, n), () -> model.put(object, n));
        } else if (kind < 40) {
            same("settle(" + object + ")",
                    () -> shelf.settle(object), () -> model.settle(object));
        } else if (kind < 48) {
            int mask = mask();
            same("get(" + object + ", " + mask + ")",
                    () -> shelf.get(object, mask), () -> model.get(object, mask));
            for (int k = 0; k < 4; k++) {
                int i = below(k == 0 ? 1 : 242) - (k == 1 ? 1 : 0);
                same("out(" + i + ")", () -> shelf.out(i), () -> model.out(i));
            }
        } else {
            int node = markedOrAny();
            int mask = mask();
            same("rebuild(" + node + ", " + mask + ")",
                    () -> shelf.rebuild(node, mask), () -> model.rebuild(node, mask));
        }
    }

    private void look(int kind) {
        int object = someObject();
        int node = index(12);
        if (kind < 68) {
            int what = index(3);
            same("object(" + object + ", " + what + ")",
                    () -> shelf.object(object, what), () -> model.object(object, what));
        } else if (kind < 76) {
            int what = index(4);
            same("node(" + node + ", " + what + ")",
                    () -> shelf.node(node, what), () -> model.node(node, what));
        } else if (kind < 84) {
            int what = index(2);
            same("share(" + node + ", " + object + ", " + what + ")",
                    () -> shelf.share(node, object, what), () -> model.share(node, object, what));
        } else if (kind < 97) {
            int i = index(64);
            same("byteAt(" + node + ", " + object + ", " + i + ")",
                    () -> shelf.byteAt(node, object, i), () -> model.byteAt(node, object, i));
        } else {
            int a = index(256);
            int b = index(256);
            int what = index(2);
            same("field(" + a + ", " + b + ", " + what + ")",
                    () -> shelf.field(a, b, what), () -> model.field(a, b, what));
        }
    }

    /** At every object and node, and at shares here and there as long as there are calls left. */
    private void lookAround() {
        for (int k = 0; k < 12; k++) {
            int number = k;
            for (int w = 0; w < 4; w++) {
                int what = w;
                if (what < 3) {
                    same("at the end object(" + k + ", " + w + ")",
                            () -> shelf.object(number, what), () -> model.object(number, what));
                }
                same("at the end node(" + k + ", " + w + ")",
                        () -> shelf.node(number, what), () -> model.node(number, what));
            }
        }
        while (shelf.callsLeft() > 0) {
            look(60 + below(40));
        }
    }
}
