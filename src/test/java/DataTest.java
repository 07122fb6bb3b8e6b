/** Promise 12: data. */
public final class DataTest {
    public static void main(String[] args) {
        withoutOperation();
        edges();
        ofTheLatestOperation();
        Checks.end();
    }

    private static void withoutOperation() {
        Face x = Links.fresh();
        Checks.due("how many", 0, x.data(-1));
        for (int k : new int[] {0, 1, -2, Integer.MIN_VALUE, Integer.MAX_VALUE}) {
            Checks.dueOutOfBounds("byte " + k + " of none", () -> x.data(k));
        }
    }

    private static void edges() {
        for (int n = 0; n <= 16; n++) {
            int[] value = new int[n];
            for (int k = 0; k < n; k++) {
                value[k] = 255 - k;
            }
            Face x = Links.with(Links.READABLE, value);
            Links.agree(x, 20);
            x.begin(1, 1);
            x.run(5);
            Checks.dueBytes(n + " bytes", value, Links.data(x));
            for (int k : new int[] {n, n + 1, 21, -2, Integer.MIN_VALUE, Integer.MAX_VALUE}) {
                Checks.dueOutOfBounds("byte " + k + " of " + n, () -> x.data(k));
            }
        }
    }

    private static void ofTheLatestOperation() {
        Face x = Links.with(Links.BOTH, 1, 255, 3);
        x.begin(1, 1);
        Checks.due("it goes on", 0, x.data(-1));
        x.run(5);
        x.put(1, true, 0, 0);
        Checks.dueBytes("the data are a copy", Links.bytes(1, 255, 3), Links.data(x));
        x.begin(1, 1);
        Checks.dueOutOfBounds("the next operation has none yet", () -> x.data(0));
        x.run(5);
        Checks.due("an empty value", 0, x.data(-1));
        x.begin(0, 9);
        x.run(5);
        Checks.due("none of LIMIT", 0, x.data(-1));
        x.begin(3, 1);
        x.run(6);
        Checks.dueBytes("the handles of FIND", Links.bytes(1), Links.data(x));
        x.write(1, 5, 1, false);
        x.run(9);
        Checks.due("none of WRITE", 0, x.data(-1));
        x.write(1, 5, 1, true);
        x.run(9);
        Checks.due("none of WRITE ALL", 0, x.data(-1));
    }
}
