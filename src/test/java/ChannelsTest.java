/** The channels of the events (promises 1 and 16). */
public final class ChannelsTest {
    public static void main(String[] args) {
        for (int hop = -30; hop <= 30; hop++) {
            follows(hop, -1, -1);
            follows(hop, 0b10110, 0);
        }
        follows(Integer.MIN_VALUE, -1, 31);
        follows(Integer.MAX_VALUE, -1, 31);
        for (int bits : new int[] {0, 1, 2, 16, 31, 32, 33, -1, -32}) {
            follows(3, 0, bits);
            follows(3, 1, bits);
            follows(3, Integer.MIN_VALUE, bits);
            follows(3, 1023, bits);
        }
        Checks.end();
    }

    private static void follows(int hop, int used, int above) {
        java.util.List<Integer> channels = new java.util.ArrayList<>();
        for (int k = 0; k < 37; k++) {
            long bits = (used & 0xFFFFFFFFL) | ((long) above << 32);
            if ((bits >> k) % 2 != 0) {
                channels.add(k);
            }
        }
        if (channels.size() < 2) {
            channels.clear();
            for (int k = 0; k < 37; k++) {
                channels.add(k);
            }
        }
        AttributeLink x = new AttributeLink(hop, used, above);
        int grows = 5 + ((hop % 12) + 12) % 12;
        for (int event = 1; event <= 40; event++) {
            x.run(1);
            int step = event * grows % 37;
            int due = channels.contains(step) ? step : channels.get(step % channels.size());
            Checks.due("hop " + hop + ", used " + used + ", above " + above + ", event " + event, due, x.look(0));
        }
    }
}
