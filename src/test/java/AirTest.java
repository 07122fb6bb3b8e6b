/** Promise 15: air, with the check and the whitening. */
public final class AirTest {
    public static void main(String[] args) {
        knownBytes();
        everyChannel();
        everyLength();
        beforeItWasSpoilt();
        wrongInputs();
        Checks.end();
    }

    /** Lengths and first byte are those of the shared runs, so that Radio is not the only witness. */
    private static void knownBytes() {
        Face x = Links.fresh();
        x.attribute(40, 3, 4660, 2);
        x.begin(1, 1);
        x.run(1);
        Checks.due("eleven bytes", 11, x.air(false, -1));
        Checks.due("the first byte", 27, x.air(false, 0));
        Checks.due("twelve bytes", 12, x.air(true, -1));
        Checks.dueBytes("the server's packet",
                Radio.whiten(Radio.packet(2, 1, 0, 3, 0, 4, 0, 11, 0x12, 0x34), 5), Links.air(x, true));
    }

    private static void everyChannel() {
        for (int k = 0; k < 37; k++) {
            Face x = Links.fresh();
            x.run(k + 1);
            int flag = k % 2;
            int channel = (5 * (k + 1)) % 37;
            Checks.dueBytes("channel " + channel, Radio.whiten(Radio.packet(1, flag, flag), channel),
                    Links.air(x, false));
            Checks.dueBytes("channel " + channel, Radio.whiten(Radio.packet(1, 1 - flag, flag), channel),
                    Links.air(x, true));
        }
    }

    /** A packet has five bytes and those of its piece. */
    private static void everyLength() {
        for (int n = 1; n <= 8; n++) {
            Face x = Links.fresh();
            x.raw(0, n);
            int piece = 4 + n;
            for (int k = 0; k < 3; k++) {
                x.run(1);
                int due = 5 + Math.min(7, piece);
                Checks.due(n + " bytes, packet " + k, due, x.air(false, -1));
                Checks.dueTrue("its last byte", x.air(false, due - 1) >= 0);
                Checks.dueOutOfBounds("behind it", () -> x.air(false, due));
                piece = Math.max(0, piece - 7);
            }
        }
    }

    private static void beforeItWasSpoilt() {
        Face x = Links.fresh();
        x.event(0, -1, 0);
        Checks.dueBytes("spoilt", Radio.packet(1, 0, 0), Links.packet(x, false));
        Checks.dueNoSuchElement("the server had nothing to answer", () -> x.air(true, -1));
        x.event(Links.LOST_UP, 0, 0);
        Checks.dueBytes("lost", Radio.packet(1, 0, 0), Links.packet(x, false));
        x.event(0, 0, -1);
        Checks.dueBytes("the server's, spoilt", Radio.packet(1, 1, 0), Links.packet(x, true));
        int[] before = Links.air(x, true);
        x.event(Links.LOST_UP, 0, 0);
        Checks.dueBytes("the server's latest one stays", before, Links.air(x, true));
    }

    private static void wrongInputs() {
        Face x = Links.fresh();
        for (boolean server : new boolean[] {false, true}) {
            Checks.dueNoSuchElement("none", () -> x.air(server, 0));
            Checks.dueNoSuchElement("none", () -> x.air(server, 99));
        }
        x.run(1);
        for (boolean server : new boolean[] {false, true}) {
            Checks.due("an empty packet", 5, x.air(server, -1));
            for (int k : new int[] {5, 12, -2, Integer.MIN_VALUE, Integer.MAX_VALUE}) {
                Checks.dueOutOfBounds("byte " + k, () -> x.air(server, k));
            }
        }
    }
}
