/** Promise 14: value. */
public final class ValueTest {
    public static void main(String[] args) {
        edges();
        wrongHandles();
        writtenByTheClient();
        Checks.end();
    }

    private static void edges() {
        for (int n = 0; n <= 16; n++) {
            int[] value = new int[n];
            for (int k = 0; k < n; k++) {
                value[k] = 255 - k;
            }
            Face x = Links.with(0, value);
            Checks.due("how many", n, x.value(1, -1));
            Checks.dueBytes(n + " bytes", value, Links.value(x, 1));
            for (int k : new int[] {n, n + 1, 16, -2, Integer.MIN_VALUE, Integer.MAX_VALUE}) {
                Checks.dueOutOfBounds("byte " + k + " of " + n, () -> x.value(1, k));
            }
        }
    }

    private static void wrongHandles() {
        Face x = Links.fresh();
        for (int count = 0; count <= 10; count++) {
            for (int handle : new int[] {0, count + 1, -1, 11, 257, Integer.MIN_VALUE, Integer.MAX_VALUE}) {
                Checks.dueIllegalArgument("handle " + handle, () -> x.value(handle, -1));
                Checks.dueIllegalArgument("handle " + handle, () -> x.value(handle, 99));
            }
            if (count < 10) {
                x.attribute(0, 0, 0, 0);
                Checks.due("the latest handle", 0, x.value(count + 1, -1));
            }
        }
    }

    private static void writtenByTheClient() {
        Face x = Links.with(Links.WRITABLE, 1, 2, 3);
        Links.ask(x, 18, 1, 9);
        Checks.dueBytes("what the client wrote", Links.bytes(9), Links.value(x, 1));
        Checks.dueOutOfBounds("the old bytes are gone", () -> x.value(1, 1));
    }
}
