/** Promise 1: a new object, for any three numbers. */
public final class NewObjectTest {
    public static void main(String[] args) {
        int[] numbers = {0, 1, -1, 37, 12, Integer.MAX_VALUE, Integer.MIN_VALUE};
        for (int hop : numbers) {
            for (int used : numbers) {
                isNew(new Program(hop, used, hop ^ used));
            }
        }
        Face one = Links.with(Links.BOTH, 1);
        isNew(Links.fresh());
        Checks.due("another object is left alone", 1, one.value(1, -1));
        Checks.end();
    }

    private static void isNew(Face x) {
        int[] due = {-1, 0, 0, 0, 8, 8, 0, 0, 0};
        for (int what = 0; what < due.length; what++) {
            Checks.due("look " + what + " of a new object", due[what], x.look(what));
        }
        Checks.dueIllegalArgument("no attribute", () -> x.value(1, -1));
        Checks.dueNoSuchElement("no operation", x::outcome);
        Checks.due("no error", 0, x.error());
        Checks.due("no data", 0, x.data(-1));
        Checks.dueNoSuchElement("no note", () -> x.note(0, -1));
        Checks.dueNoSuchElement("the client sent nothing", () -> x.air(false, -1));
        Checks.dueNoSuchElement("the server sent nothing", () -> x.air(true, -1));
        Checks.due("the first event is good", 3, x.event(0, 0, 0));
        Checks.dueBytes("the client has nothing to send", Radio.packet(1, 0, 0), Links.packet(x, false));
        Checks.dueBytes("the server has nothing to send", Radio.packet(1, 1, 0), Links.packet(x, true));
    }
}
