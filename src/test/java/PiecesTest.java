/** How pieces are put together (promises 7, 8, 12 and 13). */
public final class PiecesTest {
    public static void main(String[] args) {
        ofSevenBytes();
        otherKinds();
        beginsAnew();
        rowsOfTheServer();
        rowsOfTheClient();
        tooLongRowIsDropped();
        emptyPieceIsNotTaken();
        noRowHasBegun();
        eightRowsWait();
        Checks.end();
    }

    private static void ofSevenBytes() {
        Face x = Links.with(Links.READABLE, 0, 1, 2, 3, 4, 5, 6, 7, 8, 9, 10, 11, 12, 13, 14, 15);
        Links.agree(x, 20);
        x.begin(1, 1);
        x.run(1);
        Checks.dueBytes("the first piece", Links.bytes(17, 0, 4, 0, 11, 0, 1), Links.piece(x, true));
        Checks.due("its kind", 2, Links.packet(x, true)[0] & 3);
        x.run(1);
        Checks.dueBytes("the second piece", Links.bytes(2, 3, 4, 5, 6, 7, 8), Links.piece(x, true));
        Checks.due("its kind", 1, Links.packet(x, true)[0] & 3);
        Checks.due("not yet done", 0, x.outcome());
        x.run(1);
        Checks.dueBytes("the third piece", Links.bytes(9, 10, 11, 12, 13, 14, 15), Links.piece(x, true));
        Checks.due("done", 1, x.outcome());
        x.run(1);
        Checks.dueBytes("nothing behind it", Links.bytes(), Links.piece(x, true));
    }

    private static void otherKinds() {
        for (int kind : new int[] {0, 3}) {
            Face x = Links.with(Links.BOTH, 1);
            x.raw(Links.number(18, 1, 9, 8), 4);
            x.run(1);
            x.event(0, Radio.spoil(1 ^ kind, 0), 0);
            Checks.dueBytes("kind " + kind + " is nothing", Links.bytes(1), Links.value(x, 1));
            x.run(1);
            Checks.dueBytes("but acknowledged", Links.bytes(), Links.piece(x, false));
            x.run(28);
            Checks.due("so that no answer comes", 3, x.outcome());
        }
    }

    private static void beginsAnew() {
        Face x = Links.with(Links.BOTH, 1);
        x.raw(Links.number(18, 1, 9, 8), 4);
        x.run(1);
        x.event(0, Radio.spoil(Radio.OTHER_KIND, 0), 0);
        Checks.dueBytes("kind 2 begins anew", Links.bytes(1), Links.value(x, 1));
        x.run(30);
        Checks.due("so that no answer comes", 3, x.outcome());
    }

    private static void rowsOfTheServer() {
        isHandled(true, 3, 0, 4, 0, 27, 77, 5);
        isHandled(false, 3, 1, 4, 0, 27, 77, 5);
        isHandled(false, 3, 0, 5, 0, 27, 77, 5);
        isHandled(false, 3, 0, 4, 1, 27, 77, 5);
        isHandled(false, 4, 0, 4, 0, 27, 77, 5);
        isHandled(false, 0, 0, 4, 0, 27, 77, 5);
        isHandled(true, 20, 0, 4, 0, 27, 77, 5, 3, 4, 5, 6, 7, 8, 9, 10, 11, 12, 13, 14, 15, 16, 17, 18, 19);
        isHandled(false, 21, 0, 4, 0, 27, 77, 5, 3, 4, 5, 6, 7, 8, 9, 10, 11, 12, 13, 14, 15, 16, 17, 18, 19, 20);
    }

    private static void isHandled(boolean due, int... row) {
        Forged forged = new Forged();
        forged.holdServer();
        forged.clientGets(row);
        if (due) {
            Checks.dueBytes("the row is handled", java.util.Arrays.copyOfRange(row, 5, row.length),
                    Links.note(forged.x, 0));
        } else {
            Checks.dueNoSuchElement("the row is not handled", () -> forged.x.note(0, -1));
        }
        forged.x.run(3);
        forged.x.tell(Forged.READ_ME, false);
        forged.x.run(5);
        Checks.due("a whole row comes through behind it", Forged.READ_ME, forged.x.note(0, 0));
    }

    private static void rowsOfTheClient() {
        Forged all = new Forged();
        int[] sixteen = {18, 1, 0, 1, 2, 3, 4, 5, 6, 7, 8, 9, 10, 11, 12, 13, 14, 15};
        Checks.dueBytes("eighteen bytes", Links.bytes(19), all.answerTo(sixteen));
        Checks.due("all are written", 16, all.x.value(1, -1));
        Forged tooMany = new Forged();
        int[] seventeen = java.util.Arrays.copyOf(sixteen, 19);
        Checks.dueBytes("seventeen bytes are no value", Links.bytes(1, 18, 1, 13), tooMany.answerTo(seventeen));
        Checks.due("nothing is written", 9, tooMany.x.value(1, -1));
        Forged part = new Forged();
        int[] twenty = {22, 1, 0, 1, 2, 3, 4, 5, 6, 7, 8, 9, 10, 11, 12, 13, 14, 15, 16, 17};
        int[] echo = twenty.clone();
        echo[0] = 23;
        Checks.dueBytes("twenty bytes there and back", echo, part.answerTo(twenty));
        Checks.dueBytes("the part is too long", Links.bytes(1, 24, 0, 13), Links.ask(part.x, 24, 1));
        isNotAnswered(Links.bytes(21, 0, 4, 0, 18, 1, 2, 3, 4, 5, 6, 7, 8, 9, 10, 11, 12, 13, 14, 15, 16, 17, 18, 19, 20));
        isNotAnswered(Links.bytes(0, 0, 4, 0));
        isNotAnswered(Links.bytes(2, 0, 4, 1, 10, 1));
        isNotAnswered(Links.bytes(4, 0, 4, 0, 10, 1));
    }

    private static void isNotAnswered(int[] row) {
        Forged forged = new Forged();
        forged.serverGets(row);
        Checks.dueBytes("the server has no answer", Links.bytes(), Links.piece(forged.x, true));
        Checks.due("the value stays", 9, forged.x.value(1, -1));
        forged.x.run(29 - row.length);
        Checks.due("so that it times out", 3, forged.x.outcome());
    }

    /** A row of five bytes in all gets six of them. */
    private static void tooLongRowIsDropped() {
        Face x = Links.with(Links.BOTH, 1);
        Links.add(x, 1, Links.READABLE, 0, 0, 0, 0);
        x.tell(2, false);
        x.tell(2, false);
        x.write(1, 5, 1, false);
        x.run(1);
        x.event(0, 0, Radio.spoil(Radio.OTHER_KIND, 1, 0, 4));
        x.event(Links.LOST_DOWN, 0, 0);
        Checks.due("good", 3, x.event(0, Radio.spoil(Radio.FLIP_NEXT), Radio.spoil(Radio.FLIP_TURN, 0, 19, 77)));
        Checks.due("no answer", 0, x.outcome());
        x.run(5);
        Checks.due("the real one comes later", 1, x.outcome());
    }

    private static void emptyPieceIsNotTaken() {
        Face x = Links.with(Links.BOTH, 1);
        Links.add(x, 1, Links.READABLE, 0, 0, 0, 0);
        x.tell(2, false);
        x.run(1);
        x.event(0, 0, Radio.spoil(Radio.OTHER_KIND, 2, 0, 4));
        Checks.due("an empty piece of kind 2", 3, x.event(0, 0, Radio.spoil(Radio.OTHER_KIND)));
        x.tell(2, false);
        x.event(Links.LOST_DOWN, 0, 0);
        x.event(0, Radio.spoil(Radio.FLIP_NEXT), Radio.spoil(Radio.FLIP_TURN, 0, 27, 77));
        Checks.dueBytes("it has begun nothing anew", Links.bytes(77), Links.note(x, 0));
    }

    private static void noRowHasBegun() {
        Forged forged = new Forged();
        forged.newClientGetsUnbegun(Forged.row(27, 77, 5));
        Checks.due("they all came", 9, forged.x.look(1));
        Checks.due("and were good", 0, forged.x.look(2));
        Checks.dueNoSuchElement("but no row had begun", () -> forged.x.note(0, -1));
    }

    private static void eightRowsWait() {
        Forged forged = new Forged();
        forged.holdServer();
        for (int k = 0; k < 4; k++) {
            forged.x.tell(Forged.READ_ME, false);
        }
        for (int k = 0; k < 6; k++) {
            forged.x.begin(1, Forged.READ_ME);
            forged.clientGets(Forged.row(11, k));
            Checks.due("the forged answer", k, forged.x.data(0));
        }
        int rows = 0;
        for (int k = 0; k < 40; k++) {
            forged.x.run(1);
            rows += (Links.packet(forged.x, true)[0] & 3) == 2 ? 1 : 0;
        }
        Checks.due("four told rows and four of six answers", 8, rows);
    }
}
