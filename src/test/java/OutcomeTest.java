/** Promise 10: outcome, with the time that a request waits. */
public final class OutcomeTest {
    private static final int TOLD = 1;
    private static final int SHORT = 2;
    private static final int LONG = 3;

    public static void main(String[] args) {
        ends();
        timesOut();
        everyOperationTimesOut();
        waitsForThirtyEvents();
        countsFromTheLatestRequest();
        cutsOff();
        Checks.end();
    }

    private static void ends() {
        Face x = Links.with(Links.BOTH, 1);
        Checks.dueNoSuchElement("none", x::outcome);
        Checks.dueIllegalArgument("a wrong one", () -> x.begin(9, 9));
        Checks.dueNoSuchElement("none yet", x::outcome);
        x.begin(1, 1);
        Checks.due("it goes on", 0, x.outcome());
        x.event(Links.LOST_DOWN, 0, 0);
        Checks.due("its answer is lost", 0, x.outcome());
        x.event(0, 0, 0);
        Checks.due("done", 1, x.outcome());
        x.begin(1, 2);
        x.run(5);
        Checks.due("an error", 2, x.outcome());
    }

    private static void timesOut() {
        Face x = Links.with(Links.BOTH, 1);
        x.run(3);
        x.raw(30, 1);
        x.run(29);
        Checks.due("29 events", 0, x.outcome());
        x.run(1);
        Checks.due("30 events", 3, x.outcome());
        Checks.due("no error", 0, x.error());
        Links.breakDown(x);
        Checks.due("it stays so when the link is down", 3, x.outcome());
    }

    /** The server gets a good packet, but no row that is right, so that it has no answer. */
    private static void everyOperationTimesOut() {
        for (int operation = 0; operation <= 6; operation++) {
            Face x = Links.with(Links.BOTH, 1);
            if (operation <= 3) {
                x.begin(operation, 1);
            } else if (operation <= 5) {
                x.write(1, 2, 1, operation == 5);
            } else {
                x.raw(Links.number(10, 1), 2);
            }
            Checks.due("a good packet", 3, x.event(0, Radio.silentSpoil(16), 0));
            x.run(28);
            Checks.due("operation " + operation + " after 29 events", 0, x.outcome());
            x.run(1);
            Checks.due("operation " + operation + " after 30 events", 3, x.outcome());
            Checks.due("no error", 0, x.error());
            Checks.due("no data", 0, x.data(-1));
            x.tell(1, false);
            x.run(1);
            Checks.due("the link goes on", 1, x.note(0, 0));
            Checks.due("it stays so", 3, x.outcome());
        }
    }

    private static Face three() {
        Face x = Links.with(Links.BOTH, 1, 2, 3);
        Links.add(x, 1, Links.BOTH, 4);
        Links.add(x, 1, Links.BOTH, 1, 2, 3, 4, 5, 6, 7, 8, 9);
        return x;
    }

    private static void tellFour(Face x) {
        for (int k = 0; k < 4; k++) {
            x.tell(TOLD, false);
        }
    }

    /** Four told rows of two pieces go in front of the answer, which comes in the last of 29 + more events. */
    private static void bringAnswerSlowly(Face x, int more) {
        x.run(4);
        for (int k = 0; k < 4; k++) {
            lose(x, 5);
            x.run(1);
        }
        lose(x, more);
        Checks.due("the link is up", 0, x.look(7));
        x.run(1);
    }

    private static void lose(Face x, int n) {
        for (int k = 0; k < n; k++) {
            x.event(Links.LOST_UP, 0, 0);
        }
    }

    private static void waitsForThirtyEvents() {
        for (int more = 0; more <= 2; more++) {
            Face x = three();
            tellFour(x);
            x.begin(1, SHORT);
            bringAnswerSlowly(x, more);
            Checks.due("an answer in event " + (29 + more), more <= 1 ? 1 : 3, x.outcome());
            Checks.due("its data", more <= 1 ? 1 : 0, x.data(-1));
        }
    }

    private static void countsFromTheLatestRequest() {
        for (int more = 0; more <= 1; more++) {
            Face x = three();
            x.begin(2, LONG);
            x.run(2);
            Checks.due("the first answer came in the second event", 7, x.data(-1));
            // That event ended when the second request was given: it is the first of its thirty.
            tellFour(x);
            bringAnswerSlowly(x, more);
            Checks.due("an answer in event " + (30 + more), more == 0 ? 1 : 3, x.outcome());
            Checks.due("its data", more == 0 ? 9 : 7, x.data(-1));
        }
    }

    private static void cutsOff() {
        Face x = Links.with(Links.BOTH, 1);
        x.begin(1, 1);
        lose(x, 5);
        Checks.due("not yet", 0, x.outcome());
        lose(x, 1);
        Checks.due("cut off", 4, x.outcome());
        Checks.due("no error", 0, x.error());
        Face y = Links.with(Links.BOTH, 1);
        y.raw(30, 1);
        y.run(24);
        Links.breakDown(y);
        Checks.due("this is looked at before the 30 events", 4, y.outcome());
        Face z = Links.with(Links.BOTH, 1);
        z.begin(1, 1);
        z.run(5);
        Links.breakDown(z);
        Checks.due("what is done stays done", 1, z.outcome());
    }
}
