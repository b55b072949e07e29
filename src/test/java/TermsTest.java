import java.util.function.Supplier;

/** The edges that the head of the document and its terms name. */
public final class TermsTest {
    private static final int ALL = 4095;
    private static final int[] WITH_STRIPES = {
        0, 0, 1, 1, 2, 1, 29, 1, 30, 1, 31, 2, 59, 2, 60, 2, 61, 3, 89, 3, 90, 3, 91, 4, 120, 4,
        121, 5, 150, 5, 151, 6, 180, 6, 181, 7, 209, 7, 210, 7, 211, 8, 239, 8, 240, 8
    };

    public static void main(String[] args) {
        mostCalls();
        productsWrapAround();
        firstAndLastPoint();
        stripesAreRoundedUp();
        zeroBehindTheEnd();
        everyPlaceOfAStripe();
        everyObjectFull();
        nothingIsKept();
        newestIsZeroAtFirst();
        versionsGoUp();
        Due.end();
    }

    private static void mostCalls() {
        Due.sentence("What it is: An object is used for at most 512 calls after it has been made");
        Shelf shelf = new Shelf();
        for (int version = 1; version <= 512; version++) {
            Due.is("call " + version + ", put(11, ..)", shelf.put(11, version % 241), version);
        }
        Shelf other = new Shelf();
        Code.put(other, 0, new int[] {1, 2, 3, 4});
        while (other.callsLeft() > 2) {
            other.cut(0);
        }
        Due.is("call 511, get(0, 4095)", other.get(0, ALL), 4);
        Due.is("call 512, out(3)", other.out(3), 4);
    }

    private static void productsWrapAround() {
        Due.sentence("Terms: modulo x^8 + x^4 + x^3 + x^2 + 1");
        Shelf shelf = new Shelf();
        Due.is("field(64, 2, 0)", shelf.field(64, 2, 0), 128);
        Due.is("field(128, 2, 0)", shelf.field(128, 2, 0), 29);
        Due.is("field(2, 128, 0)", shelf.field(2, 128, 0), 29);
        Due.is("field(16, 16, 0)", shelf.field(16, 16, 0), 29);
        Due.is("field(128, 128, 0)", shelf.field(128, 128, 0), 19);
        Due.is("field(255, 255, 0)", shelf.field(255, 255, 0), 226);
        long power = 1;
        for (int k = 1; k <= 255; k++) {
            power = shelf.field((int) power, 2, 0);
            Due.is("2 to the power " + k + " is 1", power == 1 ? 1 : 0, k == 255 ? 1 : 0);
        }
    }

    private static void firstAndLastPoint() {
        Due.sentence("Terms: NODES 0 .. 11 have POINTS 1 .. 12; a node's ROW are the powers 0 to 7");
        for (int node = 0; node < 12; node++) {
            int[] row = Code.rowOf(node);
            Due.is("power 0", row[0], 1);
            Due.is("power 1", row[1], node + 1);
            // Byte 17 stands in row 0 and column 7, byte 29 in row 4 and column 7.
            Due.is("power 7 by byte 17", shareByte(node, 17, 0), row[7]);
            Due.is("power 0 by byte 17", shareByte(node, 17, 7), row[0]);
            Due.is("power 7 by byte 29", shareByte(node, 29, 4), row[7]);
            Due.is("power 4 by byte 29", shareByte(node, 29, 7), row[4]);
            Due.is("nothing else of byte 29", shareByte(node, 29, 5), 0);
        }
    }

    /** Byte i of a node's share of one stripe in which one byte is 1 and all others are 0. */
    private static long shareByte(int node, int one, int i) {
        Shelf shelf = new Shelf();
        shelf.load(one / 4, 1 << (24 - 8 * (one % 4)));
        shelf.put(0, 30);
        return shelf.byteAt(node, 0, i);
    }

    private static void stripesAreRoundedUp() {
        Due.sentence("Terms: an object of n bytes has n / 30 stripes, rounded up");
        for (int k = 0; k < WITH_STRIPES.length; k += 2) {
            int n = WITH_STRIPES[k];
            int bytes = 8 * WITH_STRIPES[k + 1];
            Shelf shelf = new Shelf();
            shelf.put(5, n);
            String of = " of " + n + " bytes";
            if (bytes > 0) {
                Due.is("the last byte" + of, shelf.byteAt(11, 5, bytes - 1), 0);
            }
            Due.refusesIndex("the next one" + of, () -> shelf.byteAt(11, 5, bytes));
            shelf.fail(0);
            shelf.back(0, true);
            Due.is("bytes sent" + of, shelf.rebuild(0, ALL), bytes);
        }
    }

    private static void zeroBehindTheEnd() {
        Due.sentence("Terms: of 30 bytes each, 0 behind its end");
        for (int n : new int[] {1, 14, 15, 16, 29, 31, 33, 59, 61, 211, 237, 238, 239}) {
            int[] bytes = new int[n];
            java.util.Arrays.fill(bytes, 255);
            for (int node = 0; node < 12; node++) {
                Shelf shelf = new Shelf();
                for (int i = 0; i < 60; i++) {
                    shelf.load(i, -1);
                }
                shelf.put(7, 240);
                shelf.put(7, n);
                Code.dueShare(shelf, node, 7, 2, bytes);
            }
        }
    }

    private static void everyPlaceOfAStripe() {
        for (int place = 0; place < 240; place++) {
            Due.sentence(place % 30 < 15
                    ? "Terms: bytes 0 to 14 are the part of a symmetric 5 by 5 matrix on and above its"
                            + " diagonal, row by row"
                    : "Terms: bytes 15 to 29 a 5 by 3 matrix, row by row.");
            int[] bytes = new int[240];
            bytes[place] = 1 + place;
            Shelf shelf = new Shelf();
            Code.put(shelf, 0, bytes);
            Code.dueShare(shelf, place % 12, 0, 1, bytes);
            Code.dueRead(shelf, 0, ALL, bytes);
        }
    }

    /** Twelve objects of 240 bytes that differ in one word; node 3 came back empty. */
    private static Shelf full() {
        Shelf shelf = new Shelf();
        Code.load(shelf, Code.someBytes(240, 1));
        for (int object = 0; object < 12; object++) {
            shelf.load(59, object);
            shelf.put(object, 240);
        }
        shelf.fail(3);
        shelf.back(3, true);
        return shelf;
    }

    private static void everyObjectFull() {
        Due.sentence("Terms: OBJECTS 0 .. 11 have up to 240 bytes");
        Supplier<Shelf> rebuilt = () -> {
            Shelf shelf = full();
            Due.is("rebuild(3, 4095) of all that is full", shelf.rebuild(3, ALL), 12 * 64);
            return shelf;
        };
        for (int object = 0; object < 12; object++) {
            int[] bytes = Code.someBytes(240, 1);
            java.util.Arrays.fill(bytes, 236, 239, 0);
            bytes[239] = object;
            Code.dueRead(full(), object, ALL, bytes);
            Code.dueRead(full(), object, 0b111110000000, bytes);
            Code.dueShare(rebuilt.get(), 3, object, 1, bytes);
            Code.dueRead(rebuilt.get(), object, 0b100000001111, bytes);
        }
    }

    private static void nothingIsKept() {
        Due.sentence("Terms: (version 0 and length 0: nothing)");
        Shelf emptied = new Shelf();
        emptied.put(0, 240);
        emptied.fail(11);
        emptied.back(11, true);
        for (int object = 0; object < 12; object++) {
            Code.dueShare(new Shelf(), object, object, 0, new int[0]);
            Code.dueShare(emptied, 11, object, 0, new int[0]);
        }
    }

    private static void newestIsZeroAtFirst() {
        Due.sentence("Terms: the NEWEST version is known (0 at first)");
        Shelf shelf = new Shelf();
        Due.is("object(4, 0)", shelf.object(4, 0), 0);
        Due.is("object(4, 1)", shelf.object(4, 1), 0);
        shelf.cut(13);
        shelf.put(4, 9);
        Due.is("object(4, 0), its first put stopped", shelf.object(4, 0), 0);
        Due.is("object(4, 1), its first put stopped", shelf.object(4, 1), 0);

        Due.sentence("Terms: a node is FRESH for it, when its share has that version");
        Due.is("node(0, 2), which has a share of version 1", shelf.node(0, 2), 11);
        Due.is("node(1, 2), which has a shadow alone", shelf.node(1, 2), 12);
        shelf.settle(4);
        Due.is("node(0, 2) when settled", shelf.node(0, 2), 12);
        Due.is("node(1, 2) when settled", shelf.node(1, 2), 12);
        shelf.fail(1);
        shelf.back(1, true);
        Due.is("node(1, 2) of an empty node", shelf.node(1, 2), 11);
        shelf.rebuild(1, ALL);
        Due.is("node(1, 2) of a rebuilt one", shelf.node(1, 2), 12);
    }

    private static void versionsGoUp() {
        Due.sentence("Terms: the version that is one above all that any put of this object made");
        Shelf shelf = new Shelf();
        Due.is("the first put", shelf.put(3, 1), 1);
        Due.is("the first put of another object", shelf.put(4, 1), 1);
        shelf.cut(0);
        Due.is("a put without a message", shelf.put(3, 1), 2);
        Due.is("settle(3), nothing of it is left", shelf.settle(3), 0);
        shelf.cut(12);
        Due.is("a put with shadows alone", shelf.put(3, 1), 3);
        Due.is("settle(3), no share of it", shelf.settle(3), 0);
        Due.is("object(3, 0)", shelf.object(3, 0), 1);
        shelf.cut(13);
        Due.is("a put with one share", shelf.put(3, 1), 4);
        shelf.fail(0);
        shelf.back(0, true);
        Due.is("settle(3), its one share is lost", shelf.settle(3), 0);
        Due.is("a removal", shelf.put(3, 0), 5);
        Due.is("a put behind it", shelf.put(3, 1), 6);
        Due.is("object(3, 0)", shelf.object(3, 0), 6);
        Due.is("the second put of the other object", shelf.put(4, 1), 2);
    }
}
