import java.util.NoSuchElementException;

/**
 * A store on twelve nodes in shares: any five tell an object; a node that comes back empty is
 * rebuilt by any eight others, each of which sends one byte a stripe.
 *
 * <p>Every row is made by the constructor and used again: no call makes anything but an exception.
 */
public final class ShareShelf {
    public static final int NONE = -1;

    private static final int NODES = 12;
    private static final int ALL_NODES = (1 << NODES) - 1;
    private static final int OBJECTS = 12;
    private static final int MOST_BYTES = 240;
    private static final int MOST_WORDS = 60;
    private static final int MOST_MESSAGES = 24;
    private static final int FEWEST_LIVE = 9;

    private static final int STRIPE = 30;
    private static final int MOST_STRIPES = MOST_BYTES / STRIPE;
    private static final int SIDE = 8;
    private static final int READERS = 5;
    private static final int HELPERS = 8;

    private final Galois galois = new Galois();
    private final Matrices matrices = new Matrices();
    private final Node[] nodes = new Node[NODES];
    private final Item[] items = new Item[OBJECTS];
    private final Team team = new Team();
    private final int[] sentBytes = new int[HELPERS];
    private final int[] loaded = new int[MOST_BYTES];
    private final int[] read = new int[MOST_BYTES];
    private int readLength = 0;
    private int stopBehind = NONE;

    public ShareShelf() {
        for (int k = 0; k < NODES; k++) {
            nodes[k] = new Node(k + 1);
        }
        for (int k = 0; k < OBJECTS; k++) {
            items[k] = new Item();
        }
    }

    public void load(int i, int word) throws IndexOutOfBoundsException {
        checkIndex(i, MOST_WORDS);
        for (int k = 0; k < 4; k++) {
            loaded[4 * i + k] = (word >>> (24 - 8 * k)) & 255;
        }
    }

    public int put(int object, int n)
            throws IndexOutOfBoundsException, IllegalArgumentException, IllegalStateException,
                    UnsupportedOperationException {
        checkIndex(object, OBJECTS);
        if (n < 0 || n > MOST_BYTES) {
            throw new IllegalArgumentException();
        }
        checkNotStopped(object);
        int live = countLive();
        if (live < FEWEST_LIVE) {
            throw new UnsupportedOperationException();
        }
        Item item = items[object];
        item.begin(n);
        int messages = takeMessages(2 * live);
        sendShadows(object, messages < live ? messages : live);
        turnShadows(object, messages - live);
        if (messages == 2 * live) {
            item.finish(true);
        }
        return item.made;
    }

    public void cut(int messages) throws IllegalArgumentException {
        if (messages < 0 || messages >= MOST_MESSAGES) {
            throw new IllegalArgumentException();
        }
        stopBehind = messages;
    }

    public boolean settle(int object) throws IndexOutOfBoundsException, IllegalStateException {
        checkIndex(object, OBJECTS);
        Item item = items[object];
        if (!item.stopped) {
            throw new IllegalStateException();
        }
        boolean counts = someNodeHasShare(object, item.made);
        if (counts) {
            turnShadows(object, NODES);
        }
        dropShadows(object);
        item.finish(counts);
        return counts;
    }

    public int get(int object, int mask)
            throws IndexOutOfBoundsException, IllegalArgumentException, IllegalStateException,
                    NoSuchElementException, UnsupportedOperationException {
        checkIndex(object, OBJECTS);
        checkMask(mask);
        checkNotStopped(object);
        int length = items[object].length;
        if (length == 0) {
            throw new NoSuchElementException();
        }
        int able = liveAndFresh(object, mask);
        if (Integer.bitCount(able) < READERS) {
            throw new UnsupportedOperationException();
        }
        chooseLowest(able);
        matrices.decode(galois, nodes, object, team, length);
        matrices.spill(read, length);
        readLength = length;
        return length;
    }

    public int out(int i) throws IndexOutOfBoundsException {
        checkIndex(i, readLength);
        return read[i];
    }

    public int object(int object, int what) throws IndexOutOfBoundsException {
        checkIndex(object, OBJECTS);
        checkIndex(what, 3);
        Item item = items[object];
        if (what == 0) {
            return item.newest;
        }
        if (what == 1) {
            return item.length;
        }
        return item.stopped ? 1 : 0;
    }

    public void fail(int node) throws IndexOutOfBoundsException, IllegalStateException {
        checkIndex(node, NODES);
        checkLive(node);
        nodes[node].live = false;
    }

    public void back(int node, boolean empty)
            throws IndexOutOfBoundsException, IllegalStateException {
        checkIndex(node, NODES);
        if (nodes[node].live) {
            throw new IllegalStateException();
        }
        nodes[node].comeBack(empty);
    }

    public int rebuild(int node, int mask)
            throws IndexOutOfBoundsException, IllegalArgumentException, IllegalStateException,
                    UnsupportedOperationException {
        checkIndex(node, NODES);
        checkMask(mask);
        checkLive(node);
        int offered = mask & ~(1 << node);
        // All objects are looked at before the first is rebuilt: a call that throws changes nothing.
        for (int k = 0; k < OBJECTS; k++) {
            if (needsRebuild(node, k) && lacksHelpers(k, offered)) {
                throw new UnsupportedOperationException();
            }
        }
        int bytes = 0;
        for (int k = 0; k < OBJECTS; k++) {
            if (needsRebuild(node, k)) {
                bytes += rebuildShare(nodes[node], k, offered);
            }
        }
        return bytes;
    }

    public int node(int node, int what) throws IndexOutOfBoundsException {
        checkIndex(node, NODES);
        checkIndex(what, 4);
        if (what == 0) {
            return nodes[node].live ? 1 : 0;
        }
        if (what == 1) {
            return nodes[node].sent;
        }
        return what == 2 ? countFresh(node) : nodes[node].countShadows();
    }

    public int share(int node, int object, int what) throws IndexOutOfBoundsException {
        checkIndex(node, NODES);
        checkIndex(object, OBJECTS);
        checkIndex(what, 2);
        Share share = nodes[node].shares[object];
        return what == 0 ? share.version : share.length;
    }

    public int byteAt(int node, int object, int i) throws IndexOutOfBoundsException {
        checkIndex(node, NODES);
        checkIndex(object, OBJECTS);
        Share share = nodes[node].shares[object];
        checkIndex(i, SIDE * stripesOf(share.length));
        return share.bytes[i];
    }

    public int field(int a, int b, int what)
            throws IndexOutOfBoundsException, IllegalArgumentException {
        checkIndex(what, 2);
        if (!isByte(a) || !isByte(b) || (what == 1 && a == 0)) {
            throw new IllegalArgumentException();
        }
        return what == 0 ? galois.times(a, b) : galois.over(b, a);
    }

    private static void checkIndex(int i, int count) {
        if (i < 0 || i >= count) {
            throw new IndexOutOfBoundsException();
        }
    }

    private static void checkMask(int mask) {
        if ((mask & ~ALL_NODES) != 0) {
            throw new IllegalArgumentException();
        }
    }

    private void checkNotStopped(int object) {
        if (items[object].stopped) {
            throw new IllegalStateException();
        }
    }

    private void checkLive(int node) {
        if (!nodes[node].live) {
            throw new IllegalStateException();
        }
    }

    private static boolean isByte(int value) {
        return value >= 0 && value <= 255;
    }

    private static int stripesOf(int length) {
        return (length + STRIPE - 1) / STRIPE;
    }

    private int countLive() {
        int count = 0;
        for (int k = 0; k < NODES; k++) {
            if (nodes[k].live) {
                count++;
            }
        }
        return count;
    }

    private boolean isFresh(int node, int object) {
        return nodes[node].shares[object].version == items[object].newest;
    }

    private int countFresh(int node) {
        int count = 0;
        for (int k = 0; k < OBJECTS; k++) {
            if (isFresh(node, k)) {
                count++;
            }
        }
        return count;
    }

    /** Of the nodes of a mask those that can tell the newest version of an object, as a mask. */
    private int liveAndFresh(int object, int mask) {
        int able = 0;
        for (int k = 0; k < NODES; k++) {
            if (((mask >> k) & 1) == 1 && nodes[k].live && isFresh(k, object)) {
                able |= 1 << k;
            }
        }
        return able;
    }

    /** How many of a put's messages go out; a cut is used up by the put even if it stops nothing. */
    private int takeMessages(int all) {
        int limit = stopBehind;
        stopBehind = NONE;
        return limit == NONE || limit > all ? all : limit;
    }

    private void sendShadows(int object, int count) {
        Item item = items[object];
        matrices.fill(loaded, item.putLength);
        int left = count;
        for (int k = 0; k < NODES && left > 0; k++) {
            if (nodes[k].live) {
                Share shadow = nodes[k].shadows[object];
                shadow.become(item.made, item.putLength);
                matrices.encode(galois, nodes[k].point, shadow);
                left--;
            }
        }
    }

    /** The first so many live nodes with a shadow of the put that was made last make it their share. */
    private void turnShadows(int object, int count) {
        int left = count;
        for (int k = 0; k < NODES && left > 0; k++) {
            if (nodes[k].live && nodes[k].shadows[object].version == items[object].made) {
                nodes[k].turnShadow(object);
                left--;
            }
        }
    }

    private void dropShadows(int object) {
        for (int k = 0; k < NODES; k++) {
            if (nodes[k].live) {
                nodes[k].shadows[object].become(0, 0);
            }
        }
    }

    private boolean someNodeHasShare(int object, int version) {
        for (int k = 0; k < NODES; k++) {
            // A failed node counts too: it may come back with this share.
            if (nodes[k].shares[object].version == version) {
                return true;
            }
        }
        return false;
    }

    private boolean needsRebuild(int node, int object) {
        return !items[object].stopped && !isFresh(node, object);
    }

    private boolean lacksHelpers(int object, int offered) {
        return items[object].length > 0
                && Integer.bitCount(liveAndFresh(object, offered)) < HELPERS;
    }

    /** Gives a node the newest share of an object; answers how many bytes its helpers sent. */
    private int rebuildShare(Node target, int object, int offered) {
        Item item = items[object];
        Share share = target.shares[object];
        int stripes = stripesOf(item.length);
        if (stripes > 0) {
            chooseLeastSent(liveAndFresh(object, offered));
        }
        share.become(item.newest, item.length);
        for (int stripe = 0; stripe < stripes; stripe++) {
            askHelpers(target.point, object, SIDE * stripe);
            // The matrix is symmetric: what the helpers' bytes are values of is the node's own share.
            galois.interpolate(team.points, sentBytes, HELPERS);
            System.arraycopy(sentBytes, 0, share.bytes, SIDE * stripe, SIDE);
        }
        return HELPERS * stripes;
    }

    private void askHelpers(int point, int object, int from) {
        for (int k = 0; k < HELPERS; k++) {
            Node helper = nodes[team.members[k]];
            sentBytes[k] = galois.valueAt(point, helper.shares[object].bytes, from);
            helper.sent++;
        }
    }

    private void chooseLowest(int able) {
        team.clear();
        for (int k = 0; k < NODES && team.size < READERS; k++) {
            if (((able >> k) & 1) == 1) {
                team.add(k);
            }
        }
    }

    private void chooseLeastSent(int able) {
        team.clear();
        int left = able;
        for (int k = 0; k < HELPERS && left != 0; k++) {
            int best = leastSent(left);
            if (best != NONE) {
                team.add(best);
                left &= ~(1 << best);
            }
        }
    }

    /** Of some nodes the one that has sent the fewest bytes, of equal ones the lowest. */
    private int leastSent(int some) {
        int best = NONE;
        for (int k = 0; k < NODES; k++) {
            boolean isOne = ((some >> k) & 1) == 1;
            if (isOne && (best == NONE || nodes[k].sent < nodes[best].sent)) {
                best = k;
            }
        }
        return best;
    }

    /** What is known of one object, whoever keeps its shares. */
    private static final class Item {
        int newest = 0;
        int length = 0;
        int made = 0;
        int putLength = 0;
        boolean stopped = false;

        /** A put begins; it counts as stopped until its last message is out. */
        void begin(int n) {
            made++;
            putLength = n;
            stopped = true;
        }

        void finish(boolean counts) {
            if (counts) {
                newest = made;
                length = putLength;
            }
            stopped = false;
        }
    }

    /** A share or a shadow; version 0 and length 0: nothing. */
    private static final class Share {
        int version = 0;
        int length = 0;
        final int[] bytes = new int[SIDE * MOST_STRIPES];

        void become(int newVersion, int newLength) {
            version = newVersion;
            length = newLength;
        }
    }

    private static final class Node {
        final int point;
        final Share[] shares = new Share[OBJECTS];
        final Share[] shadows = new Share[OBJECTS];
        boolean live = true;
        int sent = 0;

        Node(int point) {
            this.point = point;
            for (int k = 0; k < OBJECTS; k++) {
                shares[k] = new Share();
                shadows[k] = new Share();
            }
        }

        /** The two change places, so that no bytes are copied and no share is made anew. */
        void turnShadow(int object) {
            Share old = shares[object];
            shares[object] = shadows[object];
            shadows[object] = old;
            old.become(0, 0);
        }

        void comeBack(boolean empty) {
            live = true;
            for (int k = 0; k < OBJECTS; k++) {
                shadows[k].become(0, 0);
                if (empty) {
                    shares[k].become(0, 0);
                }
            }
        }

        int countShadows() {
            int count = 0;
            for (int k = 0; k < OBJECTS; k++) {
                if (shadows[k].version != 0) {
                    count++;
                }
            }
            return count;
        }
    }

    /** The nodes that were chosen for a read or a rebuild, with their points. */
    private static final class Team {
        final int[] members = new int[HELPERS];
        final int[] points = new int[HELPERS];
        int size = 0;

        void clear() {
            size = 0;
        }

        void add(int number) {
            if (size < HELPERS) {
                members[size] = number;
                points[size] = number + 1;
                size++;
            }
        }
    }

    /** The field of 256, and polynomials over it. */
    private static final class Galois {
        private static final int MODULUS = 0x11D;
        private static final int UNITS = 255;

        // The element x makes all units, so that sums of exponents serve for products.
        private final int[] power = new int[UNITS];
        private final int[] exponent = new int[UNITS + 1];

        Galois() {
            int element = 1;
            for (int k = 0; k < UNITS; k++) {
                power[k] = element;
                exponent[element] = k;
                element <<= 1;
                if (element > UNITS) {
                    element ^= MODULUS;
                }
            }
        }

        int times(int a, int b) {
            if (a == 0 || b == 0) {
                return 0;
            }
            return power[(exponent[a] + exponent[b]) % UNITS];
        }

        /** What a has to be multiplied by to give b; 0, where a is 0 (no caller asks for that). */
        int over(int b, int a) {
            if (a == 0 || b == 0) {
                return 0;
            }
            return power[(exponent[b] - exponent[a] + UNITS) % UNITS];
        }

        /** Eight bytes of a row times the powers 0 to 7 of a point. */
        int valueAt(int point, int[] row, int from) {
            int sum = 0;
            for (int k = SIDE - 1; k >= 0; k--) {
                sum = times(sum, point) ^ row[from + k];
            }
            return sum;
        }

        /**
         * Turns a polynomial's values at so many different points into its coefficients, in place:
         * Newton's divided differences first, then his form multiplied out.
         */
        void interpolate(int[] points, int[] values, int count) {
            for (int step = 1; step < count; step++) {
                for (int i = count - 1; i >= step; i--) {
                    values[i] = over(values[i] ^ values[i - 1], points[i] ^ points[i - step]);
                }
            }
            for (int k = count - 2; k >= 0; k--) {
                for (int i = k; i < count - 1; i++) {
                    values[i] ^= times(values[i + 1], points[k]);
                }
            }
        }
    }

    /**
     * The matrices of all stripes of an object, one below the other: as each is symmetric, row i
     * makes byte i of every share.
     */
    private static final class Matrices {
        private static final int[] ROW_OF = {
            0, 0, 0, 0, 0, 1, 1, 1, 1, 2, 2, 2, 3, 3, 4,
            0, 0, 0, 1, 1, 1, 2, 2, 2, 3, 3, 3, 4, 4, 4
        };
        private static final int[] COLUMN_OF = {
            0, 1, 2, 3, 4, 1, 2, 3, 4, 2, 3, 4, 3, 4, 4,
            5, 6, 7, 5, 6, 7, 5, 6, 7, 5, 6, 7, 5, 6, 7
        };

        private final int[][] rows = new int[SIDE * MOST_STRIPES][SIDE];
        private final int[] values = new int[READERS];

        void fill(int[] bytes, int length) {
            int end = STRIPE * stripesOf(length);
            for (int i = 0; i < end; i++) {
                int first = SIDE * (i / STRIPE);
                int row = ROW_OF[i % STRIPE];
                int column = COLUMN_OF[i % STRIPE];
                int value = i < length ? bytes[i] : 0;
                rows[first + row][column] = value;
                rows[first + column][row] = value;
            }
        }

        void spill(int[] bytes, int length) {
            for (int i = 0; i < length; i++) {
                int first = SIDE * (i / STRIPE);
                bytes[i] = rows[first + ROW_OF[i % STRIPE]][COLUMN_OF[i % STRIPE]];
            }
        }

        void encode(Galois galois, int point, Share share) {
            int count = SIDE * stripesOf(share.length);
            for (int i = 0; i < count; i++) {
                share.bytes[i] = galois.valueAt(point, rows[i], 0);
            }
        }

        /** Fills the matrices from the shares of five nodes. */
        void decode(Galois galois, Node[] nodes, int object, Team team, int length) {
            // From the last row up: the lower three of a stripe have five unknown bytes, and they
            // are the last three bytes of the upper five, which then have five unknown ones too.
            for (int i = SIDE * stripesOf(length) - 1; i >= 0; i--) {
                forgetFirstFive(rows[i]);
                for (int k = 0; k < READERS; k++) {
                    int known = galois.valueAt(team.points[k], rows[i], 0);
                    values[k] = nodes[team.members[k]].shares[object].bytes[i] ^ known;
                }
                galois.interpolate(team.points, values, READERS);
                setFirstFive(i);
            }
        }

        private void forgetFirstFive(int[] row) {
            for (int k = 0; k < READERS; k++) {
                row[k] = 0;
            }
        }

        private void setFirstFive(int i) {
            int column = i % SIDE;
            for (int k = 0; k < READERS; k++) {
                rows[i][k] = values[k];
                rows[i - column + k][column] = values[k];
            }
        }
    }
}
