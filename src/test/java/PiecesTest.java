/** How pieces are put together (promises 7, 8, 12 and 13). */
public final class PiecesTest {
    public static void main(String[] args) {
        ofSevenBytes();
        otherKinds();
        beginsAnew();
        forgedRows();
        tooLongRowIsDropped();
        Checks.end();
    }

    private static void ofSevenBytes() {
        AttributeLink x = Links.with(Links.READABLE, 0, 1, 2, 3, 4, 5, 6, 7, 8, 9, 10, 11, 12, 13, 14, 15);
        Links.agree(x, 20);
        x.begin(1, 1);
        x.run(1);
        Checks.dueBytes("the first piece", Links.bytes(17, 0, 4, 0, 11, 0, 1), Links.piece(x, true));
        Checks.due("its kind", 2, Links.packet(x, true)[0] & 3);
        x.run(1);
        Checks.dueBytes("the second piece", Links.bytes(2, 3, 4, 5, 6, 7, 8), Links.piece(x, true));
        Checks.due("its kind", 1, Links.packet(x, true)[0] & 3);
        Checks.due("not yet done", 0, x.outcome());
        x.run(1);
        Checks.dueBytes("the third piece", Links.bytes(9, 10, 11, 12, 13, 14, 15), Links.piece(x, true));
        Checks.due("done", 1, x.outcome());
        x.run(1);
        Checks.dueBytes("nothing behind it", Links.bytes(), Links.piece(x, true));
    }

    private static void otherKinds() {
        for (int kind : new int[] {0, 3}) {
            AttributeLink x = Links.with(Links.BOTH, 1);
            x.raw(Links.number(18, 1, 9, 8), 4);
            x.run(1);
            x.event(0, Radio.spoil(1 ^ kind, 0), 0);
            Checks.dueBytes("kind " + kind + " is nothing", Links.bytes(1), Links.value(x, 1));
            x.run(1);
            Checks.dueBytes("but acknowledged", Links.bytes(), Links.piece(x, false));
            x.run(28);
            Checks.due("so that no answer comes", 3, x.outcome());
        }
    }

    private static void beginsAnew() {
        AttributeLink x = Links.with(Links.BOTH, 1);
        x.raw(Links.number(18, 1, 9, 8), 4);
        x.run(1);
        x.event(0, Radio.spoil(Radio.OTHER_KIND, 0), 0);
        Checks.dueBytes("kind 2 begins anew", Links.bytes(1), Links.value(x, 1));
        x.run(30);
        Checks.due("so that no answer comes", 3, x.outcome());
    }

    private static void forgedRows() {
        isHandled(true, 3, 0, 4, 0, 27, 77, 5);
        isHandled(false, 3, 1, 4, 0, 27, 77, 5);
        isHandled(false, 3, 0, 5, 0, 27, 77, 5);
        isHandled(false, 3, 0, 4, 1, 27, 77, 5);
        isHandled(false, 4, 0, 4, 0, 27, 77, 5);
        isHandled(false, 0, 0, 4, 0);
        isHandled(false, 21, 0, 4, 0, 27, 77, 5);
        isHandled(false, 255, 0, 4, 0, 27, 77, 5);
    }

    private static void isHandled(boolean due, int... row) {
        Forged forged = new Forged();
        forged.getsRow(() -> { }, row);
        if (due) {
            Checks.dueBytes("the row is handled", Links.bytes(77, 5), Links.note(forged.x, 0));
        } else {
            Checks.dueNoSuchElement("the row is not handled", () -> forged.x.note(0, -1));
        }
    }

    /** The third piece brings one byte too many. */
    private static void tooLongRowIsDropped() {
        Forged forged = new Forged();
        forged.getsRow(() -> { }, 4, 0, 4, 0, 27, 77, 5, 6, 7);
        Checks.dueNoSuchElement("dropped", () -> forged.x.note(0, -1));
        forged.x.run(10);
        forged.x.tell(Forged.READ_ME, false);
        forged.x.run(3);
        Checks.due("a whole row comes through behind it", Forged.READ_ME, forged.x.note(0, 0));
    }
}
