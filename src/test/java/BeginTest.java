/** Promise 5: begin. */
public final class BeginTest {
    public static void main(String[] args) {
        firstRequests();
        wrongInputs();
        oneAtATime();
        Checks.end();
    }

    private static void firstRequests() {
        request(0, 255, 2, 255);
        request(0, 0, 2, 0);
        request(1, 7, 10, 7);
        request(2, 255, 10, 255);
        request(3, 0, 16, 1, 0);
        request(3, 255, 16, 1, 255);
    }

    private static void request(int operation, int argument, int... due) {
        Face x = Links.fresh();
        x.begin(operation, argument);
        Checks.due("it goes on", 0, x.outcome());
        x.run(1);
        int[] piece = new int[4 + due.length];
        piece[0] = due.length;
        piece[2] = 4;
        System.arraycopy(due, 0, piece, 4, due.length);
        Checks.dueBytes("operation " + operation, Radio.packet(2, 0, 0, piece), Links.packet(x, false));
    }

    private static void wrongInputs() {
        Face x = Links.fresh();
        for (int operation : new int[] {-1, 4, Integer.MIN_VALUE, Integer.MAX_VALUE}) {
            Checks.dueIllegalArgument("operation " + operation, () -> x.begin(operation, 0));
        }
        for (int argument : new int[] {-1, 256, Integer.MIN_VALUE, Integer.MAX_VALUE}) {
            Checks.dueIllegalArgument("argument " + argument, () -> x.begin(1, argument));
        }
        Checks.dueNoSuchElement("none was begun", x::outcome);
    }

    private static void oneAtATime() {
        Face x = Links.with(Links.BOTH, 1);
        x.begin(1, 1);
        Checks.dueIllegalState("it goes on", () -> x.begin(1, 1));
        Checks.dueIllegalArgument("the argument is looked at first", () -> x.begin(1, 256));
        x.run(4);
        x.begin(1, 2);
        Checks.due("behind one that is done", 0, x.outcome());
        Checks.due("its data begin anew", 0, x.data(-1));
        x.run(4);
        Checks.due("an error", 2, x.outcome());
        x.begin(1, 1);
        Checks.due("behind an error", 0, x.outcome());
        Checks.due("the error is gone", 0, x.error());
        x.run(4);
        x.raw(30, 1);
        x.run(30);
        Checks.dueIllegalState("timed out", () -> x.begin(1, 1));
        Checks.due("timed out", 3, x.outcome());
        Face y = Links.broken();
        Checks.dueIllegalState("the link is down", () -> y.begin(1, 1));
        Checks.dueIllegalArgument("the operation is looked at first", () -> y.begin(4, 1));
        Face z = Links.with(Links.BOTH, 1);
        z.begin(1, 1);
        Links.breakDown(z);
        Checks.dueIllegalState("cut off", () -> z.begin(1, 1));
    }
}
