/** Promise 12: data. */
public final class DataTest {
    public static void main(String[] args) {
        Face x = Links.with(Links.BOTH, 1, 255, 3);
        Checks.due("no operation", 0, x.data(-1));
        Checks.dueOutOfBounds("no operation", () -> x.data(0));
        x.begin(1, 1);
        Checks.due("it goes on", 0, x.data(-1));
        x.run(5);
        Checks.due("three", 3, x.data(-1));
        Checks.due("the first", 1, x.data(0));
        Checks.due("a high byte", 255, x.data(1));
        Checks.due("the last", 3, x.data(2));
        for (int k : new int[] {3, -2, Integer.MIN_VALUE, Integer.MAX_VALUE}) {
            Checks.dueOutOfBounds("byte " + k, () -> x.data(k));
        }
        x.put(1, true, 0, 0);
        Checks.due("the data are a copy", 3, x.data(-1));
        x.begin(1, 1);
        x.run(5);
        Checks.due("an empty value", 0, x.data(-1));
        x.begin(0, 9);
        x.run(5);
        Checks.due("none of LIMIT", 0, x.data(-1));
        x.begin(3, 1);
        x.run(6);
        Checks.dueBytes("the handles of FIND", Links.bytes(1), Links.data(x));
        x.write(1, 5, 1, true);
        x.run(9);
        Checks.due("none of WRITE ALL", 0, x.data(-1));
        Checks.end();
    }
}
