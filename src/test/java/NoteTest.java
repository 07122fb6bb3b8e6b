/** Promise 13: note. */
public final class NoteTest {
    public static void main(String[] args) {
        latestFour();
        wrongInputs();
        fromTheAir();
        Checks.end();
    }

    private static void latestFour() {
        Face x = Links.with(0, 10);
        for (int k = 0; k < 6; k++) {
            x.put(1, true, 10 + k, 1);
            x.tell(1, k % 2 == 1);
            x.run(3);
            for (int n = 0; n <= Math.min(k, 3); n++) {
                Checks.dueBytes("note " + n + " of " + (k + 1), Links.bytes(1, 10 + k - n), Links.note(x, n));
            }
            int none = Math.min(k, 3) + 1;
            Checks.dueNoSuchElement("note " + none + " of " + (k + 1), () -> x.note(none, 0));
        }
    }

    private static void wrongInputs() {
        Face x = Links.with(0, 5, 6);
        Checks.dueNoSuchElement("none", () -> x.note(0, 99));
        x.tell(1, false);
        x.run(3);
        Checks.due("with the handle", 3, x.note(0, -1));
        for (int k : new int[] {3, -2, Integer.MIN_VALUE, Integer.MAX_VALUE}) {
            Checks.dueOutOfBounds("byte " + k, () -> x.note(0, k));
        }
        for (int n : new int[] {1, -1, 4, Integer.MIN_VALUE, Integer.MAX_VALUE}) {
            Checks.dueNoSuchElement("note " + n, () -> x.note(n, 99));
        }
    }

    private static void fromTheAir() {
        for (int told : new int[] {27, 29}) {
            Forged without = new Forged();
            without.getsInstead(() -> { }, told);
            Checks.dueNoSuchElement("a note needs a handle", () -> without.x.note(0, -1));
            Forged with = new Forged();
            with.getsInstead(() -> { }, told, 77, 5);
            Checks.dueBytes("any handle", Links.bytes(77, 5), Links.note(with.x, 0));
            with.x.run(1);
            int[] due = told == 29 ? Links.bytes(1, 0, 4, 0, 30) : Links.bytes();
            Checks.dueBytes("what the client sends then", due, Links.piece(with.x, false));
        }
        Forged even = new Forged();
        even.getsInstead(() -> { }, 28, 77, 5);
        Checks.dueNoSuchElement("of all else nothing comes", () -> even.x.note(0, -1));
    }
}
