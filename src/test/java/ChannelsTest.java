/** The channels of the events (promises 1 and 16). */
public final class ChannelsTest {
    public static void main(String[] args) {
        for (int hop = -30; hop <= 30; hop++) {
            follows(hop, -1, -1);
            follows(hop, 0b10110, 0);
        }
        follows(Integer.MIN_VALUE, -1, 31);
        follows(Integer.MAX_VALUE, -1, 31);
        for (int bits : new int[] {0, 1, 2, 16, 31, 32, 33, -1, -32}) {
            follows(3, 0, bits);
            follows(3, 1, bits);
            follows(3, Integer.MIN_VALUE, bits);
            follows(3, 1023, bits);
        }
        hopModuloTwelve();
        stepModulo37();
        bitsOfUsedAndAbove();
        fewerThanTwoUsed();
        stepThatIsNotUsed();
        Checks.end();
    }

    private static void channels(int hop, int used, int above, int... due) {
        Face x = new Program(hop, used, above);
        for (int k = 0; k < due.length; k++) {
            x.run(1);
            Checks.due("hop " + hop + ", used " + used + ", above " + above + ", event " + k, due[k], x.look(0));
        }
    }

    private static void hopModuloTwelve() {
        channels(0, -1, -1, 5, 10);
        channels(11, -1, -1, 16, 32);
        channels(12, -1, -1, 5, 10);
        channels(23, -1, -1, 16, 32);
        channels(-1, -1, -1, 16, 32);
        channels(-11, -1, -1, 6, 12);
        channels(-12, -1, -1, 5, 10);
        channels(-13, -1, -1, 16, 32);
        channels(Integer.MAX_VALUE, -1, -1, 12, 24);
        channels(Integer.MIN_VALUE, -1, -1, 9, 18);
    }

    private static void stepModulo37() {
        channels(0, -1, -1, 5, 10, 15, 20, 25, 30, 35, 3, 8);
        channels(11, -1, -1, 16, 32, 11, 27, 6);
        channels(7, -1, -1, 12, 24, 36, 11);
        Face x = Links.fresh();
        x.run(36);
        Checks.due("the step before 37", 32, x.look(0));
        x.run(1);
        Checks.due("37 is 0", 0, x.look(0));
        x.run(1);
        Checks.due("and on", 5, x.look(0));
    }

    private static void bitsOfUsedAndAbove() {
        channels(0, 1 | Integer.MIN_VALUE, 0, 31, 0, 31, 0, 31, 0, 31, 31);
        channels(0, 0, 0b10001, 36, 32, 36, 32);
        channels(0, 1 << 30, 1 << 3, 35, 30, 35);
        // Bits of above that stand for no channel.
        channels(0, 1 << 30, -16, 36, 30, 36);
    }

    private static void fewerThanTwoUsed() {
        channels(0, 0, 0, 5, 10, 15);
        channels(0, 1 << 5, 0, 5, 10, 15);
        channels(0, Integer.MIN_VALUE, 0, 5, 10, 15);
        channels(0, 0, 1, 5, 10, 15);
        channels(0, 0, 16, 5, 10, 15);
        channels(0, 0, -32, 5, 10, 15);
        channels(0, 1, -32, 5, 10, 15);
        channels(0, 3, 0, 1, 0, 1);
        channels(0, 1, 1, 32, 0, 32);
        channels(0, 0, 3, 33, 32, 33);
    }

    private static void stepThatIsNotUsed() {
        channels(0, (1 << 5) | (1 << 7), 0, 5, 5, 7, 5);
        channels(0, ~(1 << 5), -1, 6, 10, 15);
        channels(7, -1, 0b01111, 12, 24, 0, 11);
        channels(0, 0b111, 0, 2, 1, 0, 2, 1, 0, 2, 0);
    }

    private static void follows(int hop, int used, int above) {
        java.util.List<Integer> channels = new java.util.ArrayList<>();
        for (int k = 0; k < 37; k++) {
            long bits = (used & 0xFFFFFFFFL) | ((long) above << 32);
            if ((bits >> k) % 2 != 0) {
                channels.add(k);
            }
        }
        if (channels.size() < 2) {
            channels.clear();
            for (int k = 0; k < 37; k++) {
                channels.add(k);
            }
        }
        Face x = new Program(hop, used, above);
        int grows = 5 + ((hop % 12) + 12) % 12;
        for (int event = 1; event <= 40; event++) {
            x.run(1);
            int step = event * grows % 37;
            int due = channels.contains(step) ? step : channels.get(step % channels.size());
            Checks.due("hop " + hop + ", used " + used + ", above " + above + ", event " + event, due, x.look(0));
        }
    }
}
