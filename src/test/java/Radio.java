/** The document's check and whitening, written again for the tests, and what spoils a packet into another good one. */
final class Radio {
    static final int FLIP_NEXT = 4;
    static final int FLIP_TURN = 8;
    static final int OTHER_KIND = 3;

    private Radio() {
    }

    /** A whole packet in front of whitening. */
    static int[] packet(int kind, int next, int turn, int... piece) {
        int[] body = new int[2 + piece.length];
        body[0] = kind + 4 * next + 8 * turn;
        body[1] = piece.length;
        System.arraycopy(piece, 0, body, 2, piece.length);
        return checked(body);
    }

    /** Any bytes with their check. */
    static int[] checked(int... body) {
        return withCheck(body, 0x555555);
    }

    private static int[] withCheck(int[] body, int start) {
        int register = start;
        for (int bit = 0; bit < 8 * body.length; bit++) {
            int twice = register * 2;
            boolean differs = (twice >= (1 << 24)) != ((body[bit / 8] >> (bit % 8)) % 2 == 1);
            register = (twice % (1 << 24)) ^ (differs ? 0x65B : 0);
        }
        int[] all = java.util.Arrays.copyOf(body, body.length + 3);
        all[body.length] = register / 65536;
        all[body.length + 1] = register / 256 % 256;
        all[body.length + 2] = register % 256;
        return all;
    }

    /** Eight bytes, the first ones given, that leave the check of what begins with eight bytes as it is. */
    static long silentSpoil(int... firstDifferences) {
        int[] body = java.util.Arrays.copyOf(firstDifferences, 5);
        int[] all = withCheck(body, 0);
        for (int k = body.length; k < all.length; k++) {
            // The register's highest bit goes out first, but a byte's lowest bit comes first.
            all[k] = Integer.reverse(all[k]) >>> 24;
        }
        return Links.number(all);
    }

    static int[] whiten(int[] row, int channel) {
        int[] out = row.clone();
        int register = 64 + channel;
        for (int bit = 0; bit < 8 * row.length; bit++) {
            int twice = register * 2;
            register = twice % 128;
            if (twice >= 128) {
                register ^= 0x11;
                out[bit / 8] ^= 1 << (bit % 8);
            }
        }
        return out;
    }

    /**
     * What is to be joined with a packet whose piece has at most three bytes, so that it is good again: the check is
     * linear, so that the difference of two checks is the check of the difference, begun with 0.
     */
    static long spoil(int headDifference, int... pieceDifference) {
        int[] body = new int[2 + pieceDifference.length];
        body[0] = headDifference;
        System.arraycopy(pieceDifference, 0, body, 2, pieceDifference.length);
        int[] all = java.util.Arrays.copyOf(withCheck(body, 0), 8);
        return Links.number(all);
    }
}
