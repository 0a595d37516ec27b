/** The document's numbers, written down from its words once more, for what tests are due. */
final class Sums {
    private Sums() {
    }

    static long mix(long x, long y) {
        long z = (x ^ y) * -7046029254386353131L;
        return z ^ (z >>> 29);
    }

    static long hash(long... numbers) {
        long h = 7;
        for (long number : numbers) {
            h = mix(h, number);
        }
        return h;
    }

    static long sign(int node, int number, long head) {
        return hash(-1L - node, number, head);
    }

    // Entries as rows of kind, who, value.
    static long head(int[][] entries, int k) {
        long h = 0;
        for (int i = 0; i < k; i++) {
            h = hash(h, entries[i][0], entries[i][1], entries[i][2]);
        }
        return h;
    }

    static int inputSendsTo(int node, int a, int nodes) {
        int far = (a >>> 8) & 0x7f;
        return (node + 1 + far % (nodes - 1)) % nodes;
    }

    static int inputSendsValue(int a, int b) {
        return (a >>> 1) ^ b;
    }

    static int receipt(int b, int value, int from) {
        return Integer.rotateLeft(b ^ (value + from), 5);
    }

    // The row of numbers 0 .. 255 of one piece of evidence.
    static int[] fork(int node, int[][] entries, int number, long kept) {
        int[] bytes = start(1, node, entries, 18);
        int at = bytes.length - 18;
        put(bytes, at, number, 2);
        put(bytes, at + 2, kept, 8);
        put(bytes, at + 10, sign(node, number, kept), 8);
        return bytes;
    }

    static int[] run(int node, int[][] entries, int number) {
        int[] bytes = start(2, node, entries, 2);
        put(bytes, bytes.length - 2, number, 2);
        return bytes;
    }

    private static int[] start(int kind, int node, int[][] entries, int behind) {
        int[] bytes = new int[4 + 6 * entries.length + 8 + behind];
        bytes[0] = kind;
        bytes[1] = node;
        put(bytes, 2, entries.length, 2);
        int at = 4;
        for (int[] entry : entries) {
            bytes[at] = entry[0];
            bytes[at + 1] = entry[1];
            put(bytes, at + 2, entry[2], 4);
            at += 6;
        }
        put(bytes, at, sign(node, entries.length, head(entries, entries.length)), 8);
        return bytes;
    }

    static void put(int[] bytes, int at, long number, int size) {
        for (int i = size - 1; i >= 0; i--) {
            bytes[at + i] = (int) (number & 255);
            number >>= 8;
        }
    }
}
