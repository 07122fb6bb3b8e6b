/** Promise 3: put. */
public final class PutTest {
    public static void main(String[] args) {
        behindAndInPlace();
        upToSixteen();
        everyLength();
        wrongInputs();
        Checks.end();
    }

    private static void behindAndInPlace() {
        Face x = Links.with(0, 1, 2, 3);
        Checks.due("behind", 5, x.put(1, false, 0x99040506L, 2));
        Checks.dueBytes("behind", Links.bytes(1, 2, 3, 5, 6), Links.value(x, 1));
        Checks.due("nothing behind", 5, x.put(1, false, 7, 0));
        Checks.due("in its place", 1, x.put(1, true, 0x1FFL, 1));
        Checks.dueBytes("in its place", Links.bytes(255), Links.value(x, 1));
        Checks.due("nothing in its place", 0, x.put(1, true, 7, 0));
        Checks.dueBytes("nothing in its place", Links.bytes(), Links.value(x, 1));
        Checks.due("eight", 8, x.put(1, false, 0x8182838485868788L, 8));
        Checks.dueBytes("eight", Links.bytes(0x81, 0x82, 0x83, 0x84, 0x85, 0x86, 0x87, 0x88), Links.value(x, 1));
    }

    private static void upToSixteen() {
        Face x = Links.with(0, 1, 2, 3, 4, 5, 6, 7, 8);
        x.attribute(0, 0, 5, 1);
        Checks.due("fifteen", 15, x.put(1, false, 0, 7));
        Checks.dueIllegalState("seventeen", () -> x.put(1, false, 0, 2));
        Checks.due("a refused put leaves the value alone", 15, x.value(1, -1));
        Checks.due("sixteen", 16, x.put(1, false, 3, 1));
        Checks.dueIllegalState("seventeen", () -> x.put(1, false, 0, 1));
        Checks.due("none behind sixteen", 16, x.put(1, false, 0, 0));
        Checks.dueIllegalArgument("n is looked at first", () -> x.put(1, false, 0, 9));
        Checks.due("anew", 8, x.put(1, true, 0, 8));
        Checks.due("the other attribute is left alone", 5, x.value(2, 0));
    }

    private static void everyLength() {
        for (int before = 0; before <= 16; before++) {
            for (int n = 0; n <= 8; n++) {
                int[] old = new int[before];
                java.util.Arrays.fill(old, 7);
                Face x = Links.with(0, old);
                int more = n;
                if (before + n > 16) {
                    Checks.dueIllegalState(n + " behind " + before, () -> x.put(1, false, 0, more));
                    Checks.dueBytes("a refused put leaves the value alone", old, Links.value(x, 1));
                } else {
                    Checks.due(n + " behind " + before, before + n, x.put(1, false, 0, n));
                    Checks.dueBytes("the value", java.util.Arrays.copyOf(old, before + n), Links.value(x, 1));
                }
                Checks.due(n + " in the place of " + before, n, x.put(1, true, 0, n));
                Checks.dueBytes("the value", new int[n], Links.value(x, 1));
            }
        }
    }

    private static void wrongInputs() {
        Face x = Links.with(0, 1);
        for (int handle : new int[] {-1, 0, 2, 11, Integer.MIN_VALUE, Integer.MAX_VALUE}) {
            Checks.dueIllegalArgument("handle " + handle, () -> x.put(handle, true, 0, 0));
        }
        for (int n : new int[] {-1, 9, Integer.MIN_VALUE, Integer.MAX_VALUE}) {
            Checks.dueIllegalArgument("n " + n, () -> x.put(1, true, 0, n));
        }
        Checks.dueBytes("nothing was put", Links.bytes(1), Links.value(x, 1));
        Face y = Links.broken();
        Checks.due("the host may put when the link is down", 2, y.put(1, false, 1, 1));
    }
}
