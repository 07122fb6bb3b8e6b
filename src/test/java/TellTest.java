/** Promise 4: tell. */
public final class TellTest {
    public static void main(String[] args) {
        tells();
        indicates();
        cutsToTheLimit();
        everyLimitAndLength();
        threeFourAndFiveRows();
        confirmedOnlyByTheClient();
        rowsThatWait();
        wrongInputs();
        Checks.end();
    }

    private static void tells() {
        Face x = Links.with(0, 1, 2, 3);
        x.tell(1, false);
        x.put(1, true, 9, 1);
        Checks.due("nothing is indicated", 0, x.look(8));
        x.run(1);
        Checks.dueBytes("27 h v in pieces of seven", Radio.packet(2, 1, 0, 5, 0, 4, 0, 27, 1, 1), Links.packet(x, true));
        x.run(1);
        Checks.dueBytes("the rest", Radio.packet(1, 0, 1, 2, 3), Links.packet(x, true));
        Checks.dueBytes("the value as it was then", Links.bytes(1, 1, 2, 3), Links.note(x, 0));
        x.run(1);
        Checks.dueBytes("the client confirms nothing", Radio.packet(1, 0, 0), Links.packet(x, false));
    }

    private static void indicates() {
        Face x = Links.with(0, 4);
        x.tell(1, true);
        Checks.due("at once", 1, x.look(8));
        Checks.dueIllegalState("a second one", () -> x.tell(1, true));
        x.tell(1, false);
        x.run(1);
        Checks.dueBytes("29 h v", Radio.packet(2, 1, 0, 3, 0, 4, 0, 29, 1, 4), Links.packet(x, true));
        Checks.due("not yet confirmed", 1, x.look(8));
        Checks.dueIllegalState("not yet confirmed", () -> x.tell(1, true));
        x.run(1);
        Checks.dueBytes("30", Radio.packet(2, 1, 1, 1, 0, 4, 0, 30), Links.packet(x, false));
        Checks.due("confirmed", 0, x.look(8));
        x.tell(1, true);
        Checks.due("again", 1, x.look(8));
    }

    private static void cutsToTheLimit() {
        Face x = Links.with(0, 0, 1, 2, 3, 4, 5, 6, 7, 8, 9, 10, 11, 12, 13, 14, 15);
        x.tell(1, false);
        x.run(5);
        Checks.dueBytes("limit 8", Links.bytes(1, 0, 1, 2, 3, 4, 5), Links.note(x, 0));
        Links.agree(x, 12);
        x.tell(1, true);
        x.run(5);
        Checks.dueBytes("limit 12", Links.bytes(1, 0, 1, 2, 3, 4, 5, 6, 7, 8, 9), Links.note(x, 0));
        Links.agree(x, 20);
        x.tell(1, false);
        x.run(5);
        Checks.due("limit 20", 17, x.note(0, -1));
        x.put(1, true, 0, 0);
        x.tell(1, false);
        x.run(5);
        Checks.dueBytes("an empty value", Links.bytes(1), Links.note(x, 0));
    }

    private static void everyLimitAndLength() {
        int[] all = {1, 2, 3, 4, 5, 6, 7, 8, 9, 10, 11, 12, 13, 14, 15, 16};
        for (int limit = 8; limit <= 20; limit++) {
            for (int n = 0; n <= 16; n++) {
                Face x = Links.with(0, java.util.Arrays.copyOf(all, n));
                Links.agree(x, limit);
                x.tell(1, n % 2 == 0);
                x.run(5);
                int[] due = new int[1 + Math.min(n, limit - 2)];
                due[0] = 1;
                System.arraycopy(all, 0, due, 1, due.length - 1);
                Checks.dueBytes("limit " + limit + ", " + n + " bytes", due, Links.note(x, 0));
            }
        }
        Face x = Links.with(0, all);
        Links.ask(x, 2, 20);
        Checks.due("the client's limit does not count", 8, x.look(4));
        x.tell(1, false);
        x.run(5);
        Checks.due("the server's does", 17, x.note(0, -1));
    }

    private static void threeFourAndFiveRows() {
        Face x = Links.with(Links.BOTH, 1);
        for (int k = 0; k < 3; k++) {
            x.tell(1, false);
        }
        x.tell(1, true);
        Checks.due("a fourth row may be indicated", 1, x.look(8));
        Checks.dueIllegalState("four wait", () -> x.tell(1, false));
        x.begin(1, 1);
        x.run(1);
        Checks.dueIllegalState("three and the answer wait", () -> x.tell(1, false));
        x.run(1);
        x.tell(1, false);
        Checks.dueIllegalState("four again", () -> x.tell(1, false));
        Face y = Links.with(Links.BOTH, 1, 2, 3);
        for (int k = 0; k < 4; k++) {
            y.tell(1, false);
        }
        y.begin(1, 1);
        y.run(1);
        Checks.dueIllegalState("five wait", () -> y.tell(1, false));
        y.run(1);
        Checks.dueIllegalState("four wait", () -> y.tell(1, false));
        y.run(1);
        Checks.dueIllegalState("four wait, one of them begun", () -> y.tell(1, false));
        y.run(1);
        y.tell(1, false);
        Checks.dueIllegalState("four again", () -> y.tell(1, false));
    }

    private static void confirmedOnlyByTheClient() {
        Face x = Links.with(Links.BOTH, 1);
        x.tell(1, true);
        x.event(Links.LOST_DOWN, 0, 0);
        Checks.dueIllegalState("lost on its way", () -> x.tell(1, true));
        x.event(0, 0, 0);
        Checks.dueIllegalState("it is there", () -> x.tell(1, true));
        x.event(Links.LOST_UP, 0, 0);
        Checks.dueIllegalState("the confirmation is lost", () -> x.tell(1, true));
        Checks.due("not confirmed", 1, x.look(8));
        x.tell(1, false);
        x.event(Links.LOST_DOWN, 0, 0);
        Checks.due("confirmed", 0, x.look(8));
        x.tell(1, true);
        Checks.due("the next one", 1, x.look(8));
    }

    private static void rowsThatWait() {
        Face x = Links.with(Links.BOTH, 1, 2, 3);
        for (int k = 0; k < 4; k++) {
            x.tell(1, false);
        }
        Checks.dueIllegalState("four wait", () -> x.tell(1, false));
        Checks.dueIllegalState("four wait", () -> x.tell(1, true));
        Checks.due("nothing was indicated", 0, x.look(8));
        x.run(1);
        Checks.dueIllegalState("the first one has a piece left", () -> x.tell(1, false));
        x.run(1);
        x.tell(1, false);
        Checks.dueIllegalState("four again", () -> x.tell(1, false));
        x.run(2);
        x.begin(1, 1);
        x.run(1);
        Checks.dueIllegalState("the answer waits, too", () -> x.tell(1, false));
        x.run(20);
        Checks.due("the answer came behind them", 1, x.outcome());
        Checks.dueBytes("the data", Links.bytes(1, 2, 3), Links.data(x));
    }

    private static void wrongInputs() {
        Face x = Links.with(0, 1);
        for (int handle : new int[] {-1, 0, 2, Integer.MIN_VALUE, Integer.MAX_VALUE}) {
            Checks.dueIllegalArgument("handle " + handle, () -> x.tell(handle, true));
        }
        Checks.due("nothing was indicated", 0, x.look(8));
        Face y = Links.broken();
        Checks.dueIllegalState("the link is down", () -> y.tell(1, false));
        Checks.dueIllegalState("the link is down", () -> y.tell(1, true));
        Checks.dueIllegalArgument("the handle is looked at first", () -> y.tell(2, false));
    }
}
