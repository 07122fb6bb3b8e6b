/** Promise 9: run. */
public final class RunTest {
    public static void main(String[] args) {
        everyNumber();
        wrongInputs();
        withoutFaults();
        sameAsEvents();
        whenItIsDown();
        lastPromisedCall();
        Checks.end();
    }

    private static void everyNumber() {
        for (int n = 1; n <= 40; n++) {
            Face x = Links.fresh();
            Checks.due("run " + n, n, x.run(n));
            Checks.due("events", n, x.look(1));
            Checks.due("run 1 behind it", 1, x.run(1));
            Checks.due("events", n + 1, x.look(1));
        }
    }

    private static void wrongInputs() {
        Face x = Links.fresh();
        x.run(40);
        for (int n : new int[] {-1, 0, 41, Integer.MIN_VALUE, Integer.MAX_VALUE}) {
            Checks.dueIllegalArgument("n " + n, () -> x.run(n));
        }
        Checks.due("no event", 40, x.look(1));
    }

    private static void withoutFaults() {
        Face x = Links.fresh();
        x.event(Links.LOST_UP, 0, 0);
        Checks.due("missed", 2, x.look(2) + x.look(3));
        x.run(1);
        Checks.due("without faults", 0, x.look(2) + x.look(3));
    }

    private static void sameAsEvents() {
        Face once = Links.with(Links.BOTH, 1, 2, 3, 4, 5, 6, 7, 8, 9, 10);
        Face often = Links.with(Links.BOTH, 1, 2, 3, 4, 5, 6, 7, 8, 9, 10);
        once.begin(2, 1);
        often.begin(2, 1);
        once.run(7);
        for (int k = 0; k < 7; k++) {
            often.event(0, 0, 0);
        }
        Checks.dueLines("the same", Picture.of(often), Picture.of(once));
    }

    private static void whenItIsDown() {
        Face x = Links.broken();
        Checks.due("down", 0, x.run(40));
        Checks.due("down", 0, x.run(1));
        Checks.due("no event", 6, x.look(1));
        Checks.dueIllegalArgument("n is looked at then, too", () -> x.run(41));
        Checks.dueIllegalArgument("n is looked at then, too", () -> x.run(0));
    }

    private static void lastPromisedCall() {
        Face x = Links.fresh();
        for (int k = 1; k < Program.MOST_CALLS; k++) {
            Checks.due("call " + k, 40, x.run(40));
        }
        Checks.due("call 512", 40 * 511, x.look(1));
    }
}
