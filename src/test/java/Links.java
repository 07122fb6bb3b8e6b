/** What many tests do with a link: make one, ask the server something, and read rows of bytes. */
final class Links {
    static final int LOST_UP = 1;
    static final int LOST_DOWN = 2;
    static final int READABLE = 1;
    static final int WRITABLE = 2;
    static final int BOTH = 3;

    private Links() {
    }

    static int[] bytes(int... numbers) {
        return numbers;
    }

    static long number(int... numbers) {
        long all = 0;
        for (int b : numbers) {
            all = (all << 8) | b;
        }
        return all;
    }

    static Face fresh() {
        return new Program(0, -1, -1);
    }

    /** A link whose server has one attribute of type 1 with this value. */
    static Face with(int permissions, int... value) {
        Face x = fresh();
        add(x, 1, permissions, value);
        return x;
    }

    static int add(Face x, int type, int permissions, int... value) {
        int first = Math.min(8, value.length);
        int handle = x.attribute(type, permissions, number(java.util.Arrays.copyOf(value, first)), first);
        if (value.length > first) {
            x.put(handle, false, number(java.util.Arrays.copyOfRange(value, first, value.length)), value.length - first);
        }
        return handle;
    }

    static Face broken() {
        Face x = with(BOTH, 1);
        breakDown(x);
        return x;
    }

    static void breakDown(Face x) {
        for (int k = 0; k < 6; k++) {
            x.event(LOST_UP, 0, 0);
        }
    }

    /** Sends the bytes as they are: the answer. */
    static int[] ask(Face x, int... message) {
        x.raw(number(message), message.length);
        x.run(10);
        return data(x);
    }

    /** Makes the limits of both sides the same. */
    static void agree(Face x, int limit) {
        x.begin(0, limit);
        x.run(10);
    }

    static int[] data(Face x) {
        int[] row = new int[x.data(-1)];
        for (int k = 0; k < row.length; k++) {
            row[k] = x.data(k);
        }
        return row;
    }

    static int[] value(Face x, int handle) {
        int[] row = new int[x.value(handle, -1)];
        for (int k = 0; k < row.length; k++) {
            row[k] = x.value(handle, k);
        }
        return row;
    }

    static int[] note(Face x, int n) {
        int[] row = new int[x.note(n, -1)];
        for (int k = 0; k < row.length; k++) {
            row[k] = x.note(n, k);
        }
        return row;
    }

    static int[] air(Face x, boolean server) {
        int[] row = new int[x.air(server, -1)];
        for (int k = 0; k < row.length; k++) {
            row[k] = x.air(server, k);
        }
        return row;
    }

    /** The messages that a side sends in so many events without faults; it must have no piece in hand. */
    static java.util.List<String> messages(Face x, boolean server, int events) {
        java.util.List<String> all = new java.util.ArrayList<>();
        int[] row = {};
        for (int k = 0; k < events; k++) {
            x.run(1);
            int[] piece = piece(x, server);
            int held = (packet(x, server)[0] & 3) == 2 ? 0 : row.length;
            row = java.util.Arrays.copyOf(row, held + piece.length);
            System.arraycopy(piece, 0, row, held, piece.length);
            if (piece.length > 0 && row.length == row[0] + 4) {
                all.add(java.util.Arrays.toString(java.util.Arrays.copyOfRange(row, 4, row.length)));
            }
        }
        return all;
    }

    /** The latest packet of a side without its whitening. */
    static int[] packet(Face x, boolean server) {
        return Radio.whiten(air(x, server), x.look(0));
    }

    /** The piece in that packet. */
    static int[] piece(Face x, boolean server) {
        int[] packet = packet(x, server);
        return java.util.Arrays.copyOfRange(packet, 2, packet.length - 3);
    }
}
