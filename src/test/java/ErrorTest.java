/** Promise 11: error. */
public final class ErrorTest {
    public static void main(String[] args) {
        codes();
        zeroWhenItDidNot();
        readAllMeetsAShorterValue();
        anyCodeOfTheAnswer();
        Checks.end();
    }

    private static void codes() {
        Face x = Links.with(Links.READABLE, 1);
        x.attribute(2, Links.WRITABLE, 1, 1);
        ends(x, 1, 3, 1);
        ends(x, 2, 2, 2);
        x.write(1, 0, 0, false);
        x.run(5);
        Checks.due("not to be written", 3, x.error());
        Checks.dueIllegalArgument("a wrong call", () -> x.begin(1, 256));
        Checks.due("a wrong call leaves it alone", 3, x.error());
        x.begin(1, 1);
        Checks.due("the next operation", 0, x.error());
        x.run(5);
        ends(x, 3, 77, 0);
    }

    private static void zeroWhenItDidNot() {
        Face x = Links.with(Links.READABLE, 1);
        Checks.due("no operation", 0, x.error());
        x.begin(1, 1);
        Checks.due("it goes on", 0, x.error());
        x.run(5);
        Checks.due("done", 0, x.error());
        x.begin(1, 2);
        x.run(5);
        Checks.due("an error", 1, x.error());
        x.raw(30, 1);
        Checks.due("it goes on", 0, x.error());
        x.run(30);
        Checks.due("timed out", 3, x.outcome());
        Checks.due("timed out", 0, x.error());
        Face y = Links.with(Links.READABLE, 1);
        y.begin(1, 2);
        y.run(5);
        y.begin(1, 2);
        Links.breakDown(y);
        Checks.due("cut off", 4, y.outcome());
        Checks.due("cut off", 0, y.error());
        Face z = Links.with(Links.READABLE, 1);
        z.begin(1, 2);
        z.run(5);
        Links.breakDown(z);
        Checks.due("it stays when the link goes down", 1, z.error());
    }

    private static void ends(Face x, int operation, int argument, int code) {
        x.begin(operation, argument);
        x.run(5);
        Checks.due("operation " + operation, code, x.error());
        Checks.due("operation " + operation, code == 0 ? 1 : 2, x.outcome());
    }

    private static void readAllMeetsAShorterValue() {
        Face x = Links.with(Links.READABLE, 1, 2, 3, 4, 5, 6, 7, 8, 9);
        x.begin(2, 1);
        x.run(2);
        x.put(1, true, 5, 1);
        x.run(5);
        Checks.due("no such place any more", 7, x.error());
        Checks.dueBytes("what was read stays", Links.bytes(1, 2, 3, 4, 5, 6, 7), Links.data(x));
    }

    private static void anyCodeOfTheAnswer() {
        for (int code : new int[] {0, 1, 9, 10, 11, 14, 255}) {
            Forged forged = new Forged();
            forged.getsInstead(() -> forged.x.begin(1, Forged.READ_ME), 1, 9, 9, code);
            Checks.due("an error", 2, forged.x.outcome());
            Checks.due("its code", code, forged.x.error());
        }
    }
}
