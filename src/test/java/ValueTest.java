/** Promise 14: value. */
public final class ValueTest {
    public static void main(String[] args) {
        Face x = Links.with(0, 200, 2);
        x.attribute(1, 0, 0, 0);
        Checks.due("how many", 2, x.value(1, -1));
        Checks.due("the first", 200, x.value(1, 0));
        Checks.due("the last", 2, x.value(1, 1));
        Checks.due("an empty one", 0, x.value(2, -1));
        Checks.dueOutOfBounds("of an empty one", () -> x.value(2, 0));
        for (int k : new int[] {2, 16, -2, Integer.MIN_VALUE, Integer.MAX_VALUE}) {
            Checks.dueOutOfBounds("byte " + k, () -> x.value(1, k));
        }
        for (int handle : new int[] {0, 3, -1, 11, Integer.MIN_VALUE, Integer.MAX_VALUE}) {
            Checks.dueIllegalArgument("handle " + handle, () -> x.value(handle, 99));
        }
        Face y = Links.with(Links.WRITABLE, 1, 2, 3);
        Links.ask(y, 18, 1, 9);
        Checks.dueBytes("what the client wrote", Links.bytes(9), Links.value(y, 1));
        Checks.end();
    }
}
