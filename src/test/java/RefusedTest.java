import java.util.ArrayList;
import java.util.List;
import java.util.NoSuchElementException;
import java.util.function.Consumer;
import java.util.function.Supplier;

/**
 * Calls that are refused, in every state of a link (promises 2 to 10 and 12 to 15). Each is made on one of two links
 * that were led the same way: both must answer the same, at once and after whatever comes then.
 */
public final class RefusedTest {
    private static final Class<IllegalArgumentException> ARGUMENT = IllegalArgumentException.class;
    private static final Class<IllegalStateException> STATE = IllegalStateException.class;
    private static final Class<NoSuchElementException> NO_ELEMENT = NoSuchElementException.class;
    private static final Class<IndexOutOfBoundsException> BOUNDS = IndexOutOfBoundsException.class;
    private static final int[] FAR = {Integer.MIN_VALUE, Integer.MAX_VALUE};

    private final String name;
    private final int handles;
    private final Supplier<Face> state;

    private RefusedTest(String name, int handles, Supplier<Face> state) {
        this.name = name;
        this.handles = handles;
        this.state = state;
    }

    public static void main(String[] args) {
        RefusedTest fresh = new RefusedTest("a new link", 0, RefusedTest::fresh);
        fresh.refusesWrongArguments();
        fresh.refuses("outcome of none", NO_ELEMENT, Face::outcome);
        fresh.refuses("air of none", NO_ELEMENT, x -> x.air(false, 99));
        fresh.refuses("air of none", NO_ELEMENT, x -> x.air(true, -1));
        RefusedTest full = new RefusedTest("ten attributes", 10, RefusedTest::full);
        full.refusesWrongArguments();
        full.refuses("an eleventh attribute", STATE, x -> x.attribute(0, 0, 0, 0));
        RefusedTest busy = new RefusedTest("an operation goes on", 3, RefusedTest::busy);
        busy.refusesWrongArguments();
        busy.refusesOperations();
        busy.refusesTelling();
        busy.refusesWrongBytes();
        busy.refusesWrongNotes();
        busy.refuses("seventeen bytes", STATE, x -> x.put(1, false, 7, 1));
        RefusedTest writing = new RefusedTest("WRITE ALL in its middle", 1, RefusedTest::writing);
        writing.refusesWrongArguments();
        writing.refusesOperations();
        RefusedTest waiting = new RefusedTest("no answer comes", 1, RefusedTest::waiting);
        waiting.refusesWrongArguments();
        waiting.refusesOperations();
        RefusedTest fifteen = new RefusedTest("fifteen bytes", 1, RefusedTest::fifteen);
        fifteen.refuses("seventeen bytes", STATE, x -> x.put(1, false, 7, 2));
        fifteen.refuses("twenty-three bytes", STATE, x -> x.put(1, false, 7, 8));
        RefusedTest indicated = new RefusedTest("one is indicated", 1, RefusedTest::indicated);
        indicated.refusesWrongArguments();
        indicated.refuses("to indicate another one", STATE, x -> x.tell(1, true));
        RefusedTest failed = new RefusedTest("ended with an error", 1, RefusedTest::failed);
        failed.refusesWrongArguments();
        failed.refusesWrongBytes();
        RefusedTest timedOut = new RefusedTest("timed out", 1, RefusedTest::timedOut);
        timedOut.refusesWrongArguments();
        timedOut.refusesOperations();
        for (RefusedTest down : List.of(new RefusedTest("cut off", 1, RefusedTest::cutOff),
                new RefusedTest("down without an operation", 1, RefusedTest::idleDown))) {
            down.refusesWrongArguments();
            down.refusesOperations();
            down.refusesTelling();
            down.refuses("an event", STATE, x -> x.event(0, 0, 0));
            down.refuses("an event with faults", STATE, x -> x.event(3, 1, 1));
        }
        Checks.end();
    }

    private static Face fresh() {
        return new Program(3, 0x00FF00FF, 21);
    }

    private static Face one() {
        Face x = fresh();
        x.attribute(7, Links.BOTH, 0x0102030405060708L, 8);
        return x;
    }

    private static Face full() {
        Face x = fresh();
        for (int k = 0; k < 10; k++) {
            x.attribute(k, k % 4, k, 1 + k % 3);
        }
        x.begin(1, 2);
        x.run(5);
        return x;
    }

    /** Everything is on its way: a part, four notes, four rows that wait, one indicated, READ ALL in its middle. */
    private static Face busy() {
        Face x = one();
        x.put(1, false, 0x1112131415161718L, 8);
        x.attribute(8, Links.BOTH, 0x2122, 2);
        x.attribute(9, 0, 0, 0);
        x.raw(Links.number(22, 2, 0, 5), 4);
        for (int k = 0; k < 4; k++) {
            x.put(2, true, 0x2122 + k, 2);
            x.tell(2, k == 0);
            x.run(3);
        }
        x.begin(2, 1);
        x.run(2);
        for (int k = 0; k < 4; k++) {
            x.tell(1, k == 0);
        }
        x.event(Links.LOST_DOWN, 0, 0);
        return x;
    }

    private static Face writing() {
        Face x = one();
        x.write(1, 0x3132333435363738L, 8, true);
        x.run(2);
        return x;
    }

    private static Face waiting() {
        Face x = one();
        x.raw(30, 1);
        x.run(10);
        return x;
    }

    private static Face fifteen() {
        Face x = one();
        x.put(1, false, 0x11121314151617L, 7);
        return x;
    }

    private static Face indicated() {
        Face x = one();
        x.tell(1, true);
        x.event(Links.LOST_UP, 0, 0);
        return x;
    }

    private static Face failed() {
        Face x = one();
        x.begin(0, 9);
        x.run(3);
        x.begin(2, 1);
        x.run(2);
        x.put(1, true, 0, 0);
        x.run(9);
        return x;
    }

    private static Face timedOut() {
        Face x = one();
        x.raw(30, 1);
        x.run(30);
        return x;
    }

    private static Face cutOff() {
        Face x = one();
        x.tell(1, true);
        x.begin(1, 1);
        x.event(0, 0, 0);
        goDown(x);
        return x;
    }

    private static Face idleDown() {
        Face x = one();
        goDown(x);
        return x;
    }

    private static void goDown(Face x) {
        for (int k = 0; k < 6; k++) {
            x.event(Links.LOST_DOWN, 0, 0);
        }
    }

    private void refuses(String call, Class<? extends RuntimeException> want, Consumer<Face> refused) {
        String what = name + ": " + call;
        Face touched = state.get();
        Face twin = state.get();
        Checks.dueThrows(what, want, () -> refused.accept(touched));
        Checks.dueLines(what + ", at once", Picture.of(twin), Picture.of(touched));
        Checks.dueLines(what + ", what comes then", goOn(twin), goOn(touched));
        Checks.dueLines(what + ", later", Picture.of(twin), Picture.of(touched));
    }

    /** Uses all that a refused call may have left behind: rows, parts, counts and flags. */
    private static List<String> goOn(Face x) {
        List<String> answers = new ArrayList<>();
        for (int k = 0; k < 3; k++) {
            answers.add(Picture.answer(() -> x.event(Links.LOST_DOWN, 0, 0)));
            answers.add(Picture.answer(() -> x.run(1)));
            answers.add(Picture.answer(() -> x.air(false, -1)));
            answers.add(Picture.answer(() -> x.air(true, -1)));
        }
        answers.add(Picture.answer(() -> x.attribute(1, 3, 5, 1)));
        answers.add(Picture.answer(() -> x.put(1, false, 6, 1)));
        answers.add(Picture.answer(() -> x.run(20)));
        answers.add(Picture.answer(x::outcome));
        answers.add(Picture.answer(() -> does(() -> x.tell(1, true))));
        answers.add(Picture.answer(() -> does(() -> x.raw(Links.number(24, 1), 2))));
        answers.add(Picture.answer(() -> x.run(3)));
        answers.add(Picture.answer(() -> x.data(-1)));
        answers.add(Picture.answer(() -> does(() -> x.begin(2, 1))));
        answers.add(Picture.answer(() -> x.run(20)));
        return answers;
    }

    private static int does(Runnable call) {
        call.run();
        return 0;
    }

    private void refusesWrongArguments() {
        refusesWrongAttributes();
        refusesWrongHandles();
        refusesWrongOperations();
        refusesWrongEvents();
        refusesWrongPlaces();
    }

    private static int[] and(int[] far, int... near) {
        int[] all = java.util.Arrays.copyOf(near, near.length + far.length);
        System.arraycopy(far, 0, all, near.length, far.length);
        return all;
    }

    private void refusesWrongAttributes() {
        for (int wrong : and(FAR, -1, 256)) {
            refuses("type " + wrong, ARGUMENT, x -> x.attribute(wrong, 3, 1, 1));
        }
        for (int wrong : and(FAR, -1, 4)) {
            refuses("permissions " + wrong, ARGUMENT, x -> x.attribute(1, wrong, 1, 1));
        }
        for (int wrong : and(FAR, -1, 9)) {
            refuses("attribute, n " + wrong, ARGUMENT, x -> x.attribute(1, 3, 1, wrong));
        }
    }

    private void refusesWrongHandles() {
        for (int wrong : and(FAR, -1, 0, handles + 1, 11, 256, 257)) {
            refuses("put, handle " + wrong, ARGUMENT, x -> x.put(wrong, true, 1, 1));
            refuses("tell, handle " + wrong, ARGUMENT, x -> x.tell(wrong, false));
            refuses("indicate, handle " + wrong, ARGUMENT, x -> x.tell(wrong, true));
            refuses("value, handle " + wrong, ARGUMENT, x -> x.value(wrong, 99));
        }
        for (int wrong : and(FAR, -1, 9)) {
            refuses("put behind, n " + wrong, ARGUMENT, x -> x.put(1, false, 1, wrong));
            refuses("put anew, n " + wrong, ARGUMENT, x -> x.put(1, true, 1, wrong));
        }
    }

    private void refusesWrongOperations() {
        for (int wrong : and(FAR, -1, 4)) {
            refuses("operation " + wrong, ARGUMENT, x -> x.begin(wrong, 1));
        }
        for (int wrong : and(FAR, -1, 256)) {
            for (int operation = 0; operation <= 3; operation++) {
                int asked = operation;
                refuses("operation " + operation + ", argument " + wrong, ARGUMENT, x -> x.begin(asked, wrong));
            }
            refuses("WRITE, handle " + wrong, ARGUMENT, x -> x.write(wrong, 1, 1, false));
            refuses("WRITE ALL, handle " + wrong, ARGUMENT, x -> x.write(wrong, 1, 1, true));
        }
        for (int wrong : and(FAR, -1, 9)) {
            refuses("WRITE, n " + wrong, ARGUMENT, x -> x.write(1, 1, wrong, false));
            refuses("WRITE ALL, n " + wrong, ARGUMENT, x -> x.write(1, 1, wrong, true));
        }
        refuses("WRITE above the limit", ARGUMENT, x -> x.write(1, 1, x.look(4) - 1, false));
        for (int wrong : and(FAR, -1, 0, 9)) {
            refuses("RAW, n " + wrong, ARGUMENT, x -> x.raw(1, wrong));
        }
    }

    private void refusesWrongEvents() {
        for (int wrong : and(FAR, -1, 4)) {
            refuses("faults " + wrong, ARGUMENT, x -> x.event(wrong, 0, 0));
        }
        for (int wrong : and(FAR, -1, 0, 41)) {
            refuses("run " + wrong, ARGUMENT, x -> x.run(wrong));
        }
    }

    private void refusesWrongPlaces() {
        for (int wrong : and(FAR, -2, 21)) {
            refuses("data " + wrong, BOUNDS, x -> x.data(wrong));
        }
        refuses("data behind the last", BOUNDS, x -> x.data(x.data(-1)));
        for (int wrong : and(FAR, -1, 4)) {
            refuses("note " + wrong, NO_ELEMENT, x -> x.note(wrong, 99));
        }
    }

    /** Only where there are four notes. */
    private void refusesWrongNotes() {
        for (int note = 0; note < 4; note++) {
            int asked = note;
            refuses("note behind the last", BOUNDS, x -> x.note(asked, x.note(asked, -1)));
            refuses("note before the first", BOUNDS, x -> x.note(asked, -2));
        }
    }

    /** Only where there is an attribute and a packet of each side. */
    private void refusesWrongBytes() {
        for (int wrong : and(FAR, -2, 16)) {
            refuses("value " + wrong, BOUNDS, x -> x.value(1, wrong));
        }
        refuses("value behind the last", BOUNDS, x -> x.value(1, x.value(1, -1)));
        for (boolean server : new boolean[] {false, true}) {
            for (int wrong : and(FAR, -2, 12)) {
                refuses("air " + wrong, BOUNDS, x -> x.air(server, wrong));
            }
            refuses("air behind the last", BOUNDS, x -> x.air(server, x.air(server, -1)));
        }
    }

    private void refusesOperations() {
        for (int operation = 0; operation <= 3; operation++) {
            int asked = operation;
            refuses("operation " + operation, STATE, x -> x.begin(asked, 1));
        }
        refuses("WRITE", STATE, x -> x.write(1, 9, 1, false));
        refuses("WRITE of the most bytes", STATE, x -> x.write(1, 9, 6, false));
        refuses("WRITE ALL", STATE, x -> x.write(1, 9, 8, true));
        refuses("RAW", STATE, x -> x.raw(Links.number(18, 1, 9), 3));
    }

    private void refusesTelling() {
        refuses("to tell", STATE, x -> x.tell(1, false));
        refuses("to indicate", STATE, x -> x.tell(1, true));
    }
}
