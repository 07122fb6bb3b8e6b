/**
 * A link on which one side gets rows that the other one never sent. The sender has a tail of one byte in hand, which is
 * never acknowledged to it, and each time it sends it again, it is spoilt into the next piece of the row.
 */
final class Forged {
    static final int READ_ME = 1;
    private static final int TOLD = 2;
    final Face x;
    /** Whether the getter waits for the other turn than the one that the tail has. */
    private boolean otherTurn;
    /** Whether the client is never told that its packet was there. */
    private boolean holdsClient;

    Forged() {
        this(Links.fresh());
    }

    /** On a link that is new. */
    Forged(Face link) {
        x = link;
        Links.add(x, 1, Links.BOTH, 9, 8, 7, 6, 5, 4, 3, 2, 1);
        Links.add(x, 200, Links.READABLE, 0, 0);
    }

    static int[] row(int... message) {
        int[] row = new int[4 + message.length];
        row[0] = message.length;
        row[2] = 4;
        System.arraycopy(message, 0, row, 4, message.length);
        return row;
    }

    /** Makes the server's hand hold the tail, in front of all that it has to send. */
    void holdServer() {
        x.tell(TOLD, false);
        x.event(0, 0, 0);
        x.event(Links.LOST_DOWN, 0, 0);
        x.event(0, 0, Radio.spoil(Radio.FLIP_TURN, 0));
        otherTurn = false;
    }

    /** The client sends the same packet from now on, and its rows wait; it must have nothing to send now. */
    void holdClient() {
        holdsClient = true;
    }

    void releaseClient() {
        holdsClient = false;
    }

    /** The client gets these bytes, each in a piece of its own; what it has to send must be one piece at the most. */
    void clientGets(int... row) {
        clientGetsKinds(kinds(2, row.length), row);
    }

    private static int[] kinds(int first, int n) {
        int[] kinds = new int[n];
        java.util.Arrays.fill(kinds, 1);
        kinds[0] = first;
        return kinds;
    }

    /** The same on a link that has done nothing yet, but all pieces are of kind 1: no row has begun. */
    void newClientGetsUnbegun(int... row) {
        x.tell(TOLD, false);
        x.event(Links.LOST_DOWN, 0, 0);
        x.event(0, Radio.spoil(Radio.FLIP_NEXT), 0);
        otherTurn = true;
        clientGetsKinds(kinds(1, row.length), row);
    }

    /** The same with pieces of these kinds. */
    void clientGetsKinds(int[] kinds, int... bytes) {
        for (int k = 0; k < bytes.length; k++) {
            long up = otherTurn ? Radio.spoil(Radio.FLIP_NEXT) : 0;
            // The tail is of kind 1.
            int head = (1 ^ kinds[k]) ^ (otherTurn ? Radio.FLIP_TURN : 0) ^ (holdsClient ? Radio.FLIP_NEXT : 0);
            x.event(0, up, Radio.spoil(head, bytes[k]));
            otherTurn = !otherTurn;
        }
    }

    /** Begins an operation, and the client gets this message in front of the server's answer. */
    void getsInstead(Checks.Call begin, int... message) {
        holdServer();
        begin.make();
        clientGets(row(message));
    }

    /** RAW, and the server gets this row in its place; it must have nothing to send in the meantime. */
    void serverGets(int... row) {
        x.raw(0, 4);
        x.event(0, 0, 0);
        for (int k = 0; k < row.length; k++) {
            int kind = k == 0 ? Radio.OTHER_KIND : 0;
            boolean other = k % 2 == 1;
            boolean last = k == row.length - 1;
            x.event(0, Radio.spoil(kind ^ (other ? Radio.FLIP_TURN : 0), row[k]),
                    other || last ? 0 : Radio.spoil(Radio.FLIP_NEXT));
        }
    }

    /** The server's answer to this message. */
    int[] answerTo(int... message) {
        serverGets(row(message));
        x.run(4);
        return Links.data(x);
    }
}
