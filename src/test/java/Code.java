/** The document's terms worked out in the plainest way, sharing nothing with the class under test. */
final class Code {
    private Code() {}

    /** The product of polynomials, then its remainder, bit by bit. */
    static int product(int a, int b) {
        int product = 0;
        for (int k = 0; k < 8; k++) {
            if (((b >> k) & 1) == 1) {
                product ^= a << k;
            }
        }
        for (int k = 14; k >= 8; k--) {
            if (((product >> k) & 1) == 1) {
                product ^= 0b1_0001_1101 << (k - 8);
            }
        }
        return product;
    }

    static int[] rowOf(int node) {
        int[] row = new int[8];
        row[0] = 1;
        for (int k = 1; k < 8; k++) {
            row[k] = product(row[k - 1], node + 1);
        }
        return row;
    }

    static int stripes(int length) {
        return length / 30 + (length % 30 == 0 ? 0 : 1);
    }

    static int[][] matrix(int[] bytes, int stripe) {
        int[] part = new int[30];
        for (int k = 0; k < 30 && 30 * stripe + k < bytes.length; k++) {
            part[k] = bytes[30 * stripe + k];
        }
        int[][] matrix = new int[8][8];
        int next = 0;
        for (int row = 0; row < 5; row++) {
            for (int column = row; column < 5; column++) {
                matrix[row][column] = part[next];
                matrix[column][row] = part[next++];
            }
        }
        for (int row = 0; row < 5; row++) {
            for (int column = 5; column < 8; column++) {
                matrix[row][column] = part[next];
                matrix[column][row] = part[next++];
            }
        }
        return matrix;
    }

    static int[] shareOf(int node, int[] bytes) {
        int[] share = new int[8 * stripes(bytes.length)];
        int[] row = rowOf(node);
        for (int stripe = 0; stripe < stripes(bytes.length); stripe++) {
            int[][] matrix = matrix(bytes, stripe);
            for (int column = 0; column < 8; column++) {
                for (int k = 0; k < 8; k++) {
                    share[8 * stripe + column] ^= product(row[k], matrix[k][column]);
                }
            }
        }
        return share;
    }

    /** Some bytes without a pattern, the same for the same seed. */
    static int[] someBytes(int length, int seed) {
        int[] bytes = new int[length];
        int state = 12345 + 7919 * seed;
        for (int k = 0; k < length; k++) {
            state = state * 1103515245 + 12345;
            bytes[k] = (state >>> 16) & 255;
        }
        return bytes;
    }

    /** Loads bytes, and behind them up to the word's end what must not be seen. */
    static void load(Shelf shelf, int[] bytes) {
        for (int i = 0; 4 * i < bytes.length; i++) {
            int word = 0;
            for (int k = 4 * i; k < 4 * i + 4; k++) {
                word = (word << 8) | (k < bytes.length ? bytes[k] : 0xA5);
            }
            shelf.load(i, word);
        }
    }

    static long put(Shelf shelf, int object, int[] bytes) {
        load(shelf, bytes);
        return shelf.put(object, bytes.length);
    }

    static void dueShare(Shelf shelf, int node, int object, int version, int[] bytes) {
        String where = "(" + node + ", " + object;
        Due.is("share" + where + ", 0)", shelf.share(node, object, 0), version);
        Due.is("share" + where + ", 1)", shelf.share(node, object, 1), bytes.length);
        int[] share = shareOf(node, bytes);
        for (int i = 0; i < share.length; i++) {
            Due.is("byteAt" + where + ", " + i + ")", shelf.byteAt(node, object, i), share[i]);
        }
        Due.refusesIndex(
                "byteAt" + where + ", " + share.length + ")",
                () -> shelf.byteAt(node, object, share.length));
    }

    static void dueRead(Shelf shelf, int object, int mask, int[] bytes) {
        String call = "get(" + object + ", " + mask + ")";
        Due.is(call, shelf.get(object, mask), bytes.length);
        for (int i = 0; i < bytes.length; i++) {
            Due.is("out(" + i + ") after " + call, shelf.out(i), bytes[i]);
        }
        Due.refusesIndex("out(" + bytes.length + ")", () -> shelf.out(bytes.length));
    }
}
