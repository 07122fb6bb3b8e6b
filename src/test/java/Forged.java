/**
 * A link on which the client gets a row that the server never sent. The server tells values that leave tails of one to
 * three bytes, which are spoilt into the pieces of the row; the rows told go in front of the server's real answer.
 */
final class Forged {
    static final int READ_ME = 1;
    private static final int FIRST_TAIL = 2;
    final AttributeLink x;

    Forged() {
        x = Links.with(Links.BOTH, 9, 8, 7, 6, 5, 4, 3, 2, 1);
        for (int tail = 1; tail <= 3; tail++) {
            Links.add(x, 200 + tail, Links.READABLE, new int[1 + tail]);
        }
    }

    /** Begins an operation and makes the client handle this message of at most 8 bytes in front of the answer. */
    void getsInstead(Checks.Call begin, int... message) {
        int[] row = new int[4 + message.length];
        row[0] = message.length;
        row[2] = 4;
        System.arraycopy(message, 0, row, 4, message.length);
        getsRow(begin, row);
    }

    /** The same with a whole row of at most 12 bytes, its first four with it. */
    void getsRow(Checks.Call begin, int... row) {
        for (int from = 0; from < row.length; from += 3) {
            x.tell(FIRST_TAIL - 1 + Math.min(3, row.length - from), false);
        }
        begin.make();
        x.event(0, 0, 0);
        for (int from = 0; from < row.length; from += 3) {
            int[] piece = java.util.Arrays.copyOfRange(row, from, Math.min(from + 3, row.length));
            if (from == 0) {
                x.event(0, 0, Radio.spoil(Radio.OTHER_KIND, piece));
            } else if (from % 6 == 3) {
                putBehind(piece, from + 3 < row.length);
            } else {
                x.event(0, 0, Radio.spoil(0, piece));
            }
        }
    }

    /**
     * A told row's own first piece would begin the forged row anew. So it is lost, and the server is made to believe
     * that it came; the tail then has a turn that the client does not wait for, which is spoilt, too. The event behind
     * it gets the turns straight again, and the client passes over the first piece of the next told row in it.
     */
    private void putBehind(int[] piece, boolean more) {
        x.event(Links.LOST_DOWN, 0, 0);
        x.event(0, Radio.spoil(Radio.FLIP_NEXT), Radio.spoil(Radio.FLIP_TURN, piece));
        if (more) {
            x.event(0, Radio.spoil(Radio.FLIP_NEXT), 0);
        }
    }
}
