/** Promise 1: a new object, for any three numbers. */
public final class NewObjectTest {
    public static void main(String[] args) {
        int[] numbers = {0, 1, -1, 37, 12, Integer.MAX_VALUE, Integer.MIN_VALUE};
        for (int hop : numbers) {
            for (int used : numbers) {
                isNew(new Program(hop, used, hop ^ used));
            }
        }
        Face one = Links.with(Links.BOTH, 1);
        isNew(Links.fresh());
        Checks.due("another object is left alone", 1, one.value(1, -1));
        objectsAreApart();
        Checks.end();
    }

    /** Two objects that are used in turns answer as each one does alone. */
    private static void objectsAreApart() {
        Face first = new Program(1, -1, -1);
        Face second = new Program(4, 0xFF, 0);
        Face firstAlone = new Program(1, -1, -1);
        Face secondAlone = new Program(4, 0xFF, 0);
        for (int k = 0; k < 12; k++) {
            step(first, k, 0);
            step(second, k, 7);
        }
        for (int k = 0; k < 12; k++) {
            step(firstAlone, k, 0);
        }
        for (int k = 0; k < 12; k++) {
            step(secondAlone, k, 7);
        }
        Checks.dueLines("the first of two", Picture.of(firstAlone), Picture.of(first));
        Checks.dueLines("the second of two", Picture.of(secondAlone), Picture.of(second));
    }

    private static void step(Face x, int k, int more) {
        if (k == 0) {
            Links.add(x, 1, Links.BOTH, 1, 2, 3, 4, 5, 6, 7, 8, 9, 10 + more);
            x.tell(1, more > 0);
            x.begin(2, 1);
        }
        if (k == 6) {
            x.put(1, true, more, 1);
            x.tell(1, false);
        }
        x.event(k == 3 ? Links.LOST_DOWN : 0, k == 1 ? more : 0, 0);
    }

    private static void isNew(Face x) {
        int[] due = {-1, 0, 0, 0, 8, 8, 0, 0, 0};
        for (int what = 0; what < due.length; what++) {
            Checks.due("look " + what + " of a new object", due[what], x.look(what));
        }
        Checks.dueIllegalArgument("no attribute", () -> x.value(1, -1));
        Checks.dueNoSuchElement("no operation", x::outcome);
        Checks.due("no error", 0, x.error());
        Checks.due("no data", 0, x.data(-1));
        Checks.dueNoSuchElement("no note", () -> x.note(0, -1));
        Checks.dueNoSuchElement("the client sent nothing", () -> x.air(false, -1));
        Checks.dueNoSuchElement("the server sent nothing", () -> x.air(true, -1));
        Checks.due("the first event is good", 3, x.event(0, 0, 0));
        Checks.dueBytes("the client has nothing to send", Radio.packet(1, 0, 0), Links.packet(x, false));
        Checks.dueBytes("the server has nothing to send", Radio.packet(1, 1, 0), Links.packet(x, true));
    }
}
