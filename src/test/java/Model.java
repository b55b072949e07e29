import java.util.ArrayList;
import java.util.Arrays;
import java.util.Comparator;
import java.util.HashMap;
import java.util.List;
import java.util.Map;
import java.util.NoSuchElementException;

/**
 * What the document says, held otherwise than in the class under test: a node keeps only the
 * numbers of versions, and what was put under a version is looked up when it is asked for.
 */
final class Model {
    private final Map<List<Integer>, int[]> data = new HashMap<>();
    private final int[] loaded = new int[240];
    private final int[] newest = new int[12];
    private final int[] made = new int[12];
    private final boolean[] stopped = new boolean[12];
    private final boolean[] live = new boolean[12];
    private final int[] sent = new int[12];
    private final int[][] shares = new int[12][12];
    private final int[][] shadows = new int[12][12];
    private int[] read = new int[0];
    private int cut = -1;

    Model() {
        Arrays.fill(live, true);
        for (int object = 0; object < 12; object++) {
            data.put(List.of(object, 0), new int[0]);
        }
    }

    private static void inside(int i, int count) {
        if (i < 0 || i >= count) {
            throw new IndexOutOfBoundsException();
        }
    }

    private static void argument(boolean good) {
        if (!good) {
            throw new IllegalArgumentException();
        }
    }

    private static void state(boolean good) {
        if (!good) {
            throw new IllegalStateException();
        }
    }

    private static void support(boolean good) {
        if (!good) {
            throw new UnsupportedOperationException();
        }
    }

    private int[] bytes(int object, int version) {
        return data.get(List.of(object, version));
    }

    private List<Integer> liveNodes() {
        List<Integer> nodes = new ArrayList<>();
        for (int node = 0; node < 12; node++) {
            if (live[node]) {
                nodes.add(node);
            }
        }
        return nodes;
    }

    private List<Integer> able(int object, int mask) {
        List<Integer> nodes = liveNodes();
        nodes.removeIf(k -> (mask & (1 << k)) == 0 || shares[k][object] != newest[object]);
        return nodes;
    }

    long load(int i, int word) {
        inside(i, 60);
        for (int k = 3; k >= 0; k--) {
            loaded[4 * i + k] = word & 255;
            word >>= 8;
        }
        return 0;
    }

    long put(int object, int n) {
        inside(object, 12);
        argument(n >= 0 && n <= 240);
        state(!stopped[object]);
        List<Integer> nodes = liveNodes();
        support(nodes.size() >= 9);
        int version = ++made[object];
        data.put(List.of(object, version), Arrays.copyOf(loaded, n));
        int limit = cut;
        cut = -1;
        int messages = 0;
        for (int round = 0; round < 2; round++) {
            for (int node : nodes) {
                if (messages++ == limit) {
                    stopped[object] = true;
                    return version;
                }
                shares[node][object] = round == 1 ? version : shares[node][object];
                shadows[node][object] = round == 1 ? 0 : version;
            }
        }
        newest[object] = version;
        return version;
    }

    long cut(int messages) {
        argument(messages >= 0 && messages <= 23);
        cut = messages;
        return 0;
    }

    long settle(int object) {
        inside(object, 12);
        state(stopped[object]);
        boolean counts = Arrays.stream(shares).anyMatch(s -> s[object] == made[object]);
        for (int node : liveNodes()) {
            if (counts && shadows[node][object] == made[object]) {
                shares[node][object] = made[object];
            }
            shadows[node][object] = 0;
        }
        if (counts) {
            newest[object] = made[object];
        }
        stopped[object] = false;
        return counts ? 1 : 0;
    }

    long get(int object, int mask) {
        inside(object, 12);
        argument(mask >= 0 && mask < 4096);
        state(!stopped[object]);
        int[] bytes = bytes(object, newest[object]);
        if (bytes.length == 0) {
            throw new NoSuchElementException();
        }
        support(able(object, mask).size() >= 5);
        read = bytes;
        return bytes.length;
    }

    long out(int i) {
        inside(i, read.length);
        return read[i];
    }

    long object(int object, int what) {
        inside(object, 12);
        inside(what, 3);
        int length = bytes(object, newest[object]).length;
        return new int[] {newest[object], length, stopped[object] ? 1 : 0}[what];
    }

    long fail(int node) {
        inside(node, 12);
        state(live[node]);
        live[node] = false;
        return 0;
    }

    long back(int node, boolean empty) {
        inside(node, 12);
        state(!live[node]);
        live[node] = true;
        shadows[node] = new int[12];
        shares[node] = empty ? new int[12] : shares[node];
        return 0;
    }

    long rebuild(int node, int mask) {
        inside(node, 12);
        argument(mask >= 0 && mask < 4096);
        state(live[node]);
        int others = mask & ~(1 << node);
        List<Integer> due = new ArrayList<>();
        for (int object = 0; object < 12; object++) {
            if (!stopped[object] && shares[node][object] != newest[object]) {
                due.add(object);
                boolean bare = bytes(object, newest[object]).length == 0;
                support(bare || able(object, others).size() >= 8);
            }
        }
        int bytes = 0;
        for (int object : due) {
            int stripes = Code.stripes(bytes(object, newest[object]).length);
            List<Integer> helpers = able(object, others);
            helpers.sort(Comparator.comparingInt(k -> 100 * sent[k] + k));
            for (int k = 0; k < 8 && stripes > 0; k++) {
                sent[helpers.get(k)] += stripes;
                bytes += stripes;
            }
            shares[node][object] = newest[object];
        }
        return bytes;
    }

    long node(int node, int what) {
        inside(node, 12);
        inside(what, 4);
        int fresh = 0;
        int waiting = 0;
        for (int object = 0; object < 12; object++) {
            fresh += shares[node][object] == newest[object] ? 1 : 0;
            waiting += shadows[node][object] > 0 ? 1 : 0;
        }
        return new int[] {live[node] ? 1 : 0, sent[node], fresh, waiting}[what];
    }

    long share(int node, int object, int what) {
        inside(node, 12);
        inside(object, 12);
        inside(what, 2);
        int version = shares[node][object];
        return what == 0 ? version : bytes(object, version).length;
    }

    long byteAt(int node, int object, int i) {
        inside(node, 12);
        inside(object, 12);
        int[] bytes = Code.shareOf(node, bytes(object, shares[node][object]));
        inside(i, bytes.length);
        return bytes[i];
    }

    long field(int a, int b, int what) {
        inside(what, 2);
        argument(a >= 0 && a < 256 && b >= 0 && b < 256 && (what == 0 || a > 0));
        int factor = 0;
        while (what == 1 && Code.product(a, factor) != b) {
            factor++;
        }
        return what == 0 ? Code.product(a, b) : factor;
    }
}
