/** What many tests do with a link: make one, ask the server something, and read rows of bytes. */
final class Links {
    static final int LOST_UP = 1;
    static final int LOST_DOWN = 2;
    static final int READABLE = 1;
    static final int WRITABLE = 2;
    static final int BOTH = 3;

    private Links() {
    }

    static int[] bytes(int... numbers) {
        return numbers;
    }

    static long number(int... numbers) {
        long all = 0;
        for (int b : numbers) {
            all = (all << 8) | b;
        }
        return all;
    }

    static AttributeLink fresh() {
        return new AttributeLink(0, -1, -1);
    }

    /** A link whose server has one attribute of type 1 with this value. */
    static AttributeLink with(int permissions, int... value) {
        AttributeLink x = fresh();
        add(x, 1, permissions, value);
        return x;
    }

    static int add(AttributeLink x, int type, int permissions, int... value) {
        int first = Math.min(8, value.length);
        int handle = x.attribute(type, permissions, number(java.util.Arrays.copyOf(value, first)), first);
        if (value.length > first) {
            x.put(handle, false, number(java.util.Arrays.copyOfRange(value, first, value.length)), value.length - first);
        }
        return handle;
    }

    static AttributeLink broken() {
        AttributeLink x = with(BOTH, 1);
        breakDown(x);
        return x;
    }

    static void breakDown(AttributeLink x) {
        for (int k = 0; k < 6; k++) {
            x.event(LOST_UP, 0, 0);
        }
    }

    /** Sends the bytes as they are: the answer. */
    static int[] ask(AttributeLink x, int... message) {
        x.raw(number(message), message.length);
        x.run(10);
        return data(x);
    }

    /** Makes the limits of both sides the same. */
    static void agree(AttributeLink x, int limit) {
        x.begin(0, limit);
        x.run(10);
    }

    static int[] data(AttributeLink x) {
        int[] row = new int[x.data(-1)];
        for (int k = 0; k < row.length; k++) {
            row[k] = x.data(k);
        }
        return row;
    }

    static int[] value(AttributeLink x, int handle) {
        int[] row = new int[x.value(handle, -1)];
        for (int k = 0; k < row.length; k++) {
            row[k] = x.value(handle, k);
        }
        return row;
    }

    static int[] note(AttributeLink x, int n) {
        int[] row = new int[x.note(n, -1)];
        for (int k = 0; k < row.length; k++) {
            row[k] = x.note(n, k);
        }
        return row;
    }

    static int[] air(AttributeLink x, boolean server) {
        int[] row = new int[x.air(server, -1)];
        for (int k = 0; k < row.length; k++) {
            row[k] = x.air(server, k);
        }
        return row;
    }

    /** The latest packet of a side without its whitening. */
    static int[] packet(AttributeLink x, boolean server) {
        return Radio.whiten(air(x, server), x.look(0));
    }

    /** The piece in that packet. */
    static int[] piece(AttributeLink x, boolean server) {
        int[] packet = packet(x, server);
        return java.util.Arrays.copyOfRange(packet, 2, packet.length - 3);
    }
}
