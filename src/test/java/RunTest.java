/** Promise 9: run. */
public final class RunTest {
    public static void main(String[] args) {
        Face x = Links.fresh();
        Checks.due("one", 1, x.run(1));
        Checks.due("one event", 1, x.look(1));
        Checks.due("forty", 40, x.run(40));
        Checks.due("forty more", 41, x.look(1));
        for (int n : new int[] {-1, 0, 41, Integer.MIN_VALUE, Integer.MAX_VALUE}) {
            Checks.dueIllegalArgument("n " + n, () -> x.run(n));
        }
        Checks.due("no more", 41, x.look(1));
        x.event(Links.LOST_UP, 0, 0);
        x.run(1);
        Checks.due("without faults", 0, x.look(2) + x.look(3));
        sameAsEvents();
        Face y = Links.broken();
        Checks.due("down", 0, y.run(40));
        Checks.due("no event", 6, y.look(1));
        Checks.dueIllegalArgument("n is looked at when it is down, too", () -> y.run(41));
        Checks.end();
    }

    private static void sameAsEvents() {
        Face once = Links.with(Links.BOTH, 1, 2, 3, 4, 5, 6, 7, 8, 9, 10);
        Face often = Links.with(Links.BOTH, 1, 2, 3, 4, 5, 6, 7, 8, 9, 10);
        once.begin(2, 1);
        often.begin(2, 1);
        once.run(7);
        for (int k = 0; k < 7; k++) {
            often.event(0, 0, 0);
        }
        Checks.dueBytes("the same packet", Links.air(often, true), Links.air(once, true));
        Checks.dueBytes("the same data", Links.data(often), Links.data(once));
        Checks.due("the same outcome", often.outcome(), once.outcome());
    }
}
