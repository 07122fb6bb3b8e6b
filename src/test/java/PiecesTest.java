/** How pieces are put together (promises 7, 8, 12 and 13). */
public final class PiecesTest {
    public static void main(String[] args) {
        ofSevenBytes();
        lastOneOfFewer();
        theRowThatWaitsLongest();
        nothingBetweenPieces();
        beginsAnewInTheMiddle();
        noneHasBegunBehindADroppedRow();
        noneHasBegunBehindADoneRow();
        emptyMessage();
        eightRowsOfTheClientWait();
        nineRowsWithARequest();
        otherKinds();
        beginsAnew();
        rowsOfTheServer();
        rowsOfTheClient();
        tooLongRowIsDropped();
        emptyPieceIsNotTaken();
        noRowHasBegun();
        eightRowsWait();
        Checks.end();
    }

    private static void ofSevenBytes() {
        Face x = Links.with(Links.READABLE, 0, 1, 2, 3, 4, 5, 6, 7, 8, 9, 10, 11, 12, 13, 14, 15);
        Links.agree(x, 20);
        x.begin(1, 1);
        x.run(1);
        Checks.dueBytes("the first piece", Links.bytes(17, 0, 4, 0, 11, 0, 1), Links.piece(x, true));
        Checks.due("its kind", 2, Links.packet(x, true)[0] & 3);
        x.run(1);
        Checks.dueBytes("the second piece", Links.bytes(2, 3, 4, 5, 6, 7, 8), Links.piece(x, true));
        Checks.due("its kind", 1, Links.packet(x, true)[0] & 3);
        Checks.due("not yet done", 0, x.outcome());
        x.run(1);
        Checks.dueBytes("the third piece", Links.bytes(9, 10, 11, 12, 13, 14, 15), Links.piece(x, true));
        Checks.due("done", 1, x.outcome());
        x.run(1);
        Checks.dueBytes("nothing behind it", Links.bytes(), Links.piece(x, true));
    }

    /** Each piece's bytes, the first one of kind 2, and an empty packet behind the last one. */
    private static void pieces(String what, Face x, boolean server, int... sizes) {
        for (int k = 0; k <= sizes.length; k++) {
            x.run(1);
            int size = k < sizes.length ? sizes[k] : 0;
            Checks.due(what + ", piece " + k, size, Links.piece(x, server).length);
            Checks.due(what + ", kind of piece " + k, k == 0 ? 2 : 1, Links.packet(x, server)[0] & 3);
        }
    }

    private static void lastOneOfFewer() {
        int[][] sizes = {{}, {5}, {6}, {7}, {7, 1}, {7, 2}, {7, 3}, {7, 4}, {7, 5}};
        for (int n = 1; n <= 8; n++) {
            Face x = Links.fresh();
            x.raw(0, n);
            pieces(n + " bytes of the client", x, false, sizes[n]);
        }
        Face ten = Links.with(Links.BOTH, 1);
        Links.agree(ten, 20);
        ten.write(1, 0, 8, false);
        pieces("10 bytes", ten, false, 7, 7);
        int[][] told = {{6}, {7}, {7, 1}, {7, 2}, {7, 3}, {7, 4}, {7, 5}, {7, 6}, {7, 7}, {7, 7, 1}, {7, 7, 2}, {7, 7, 3},
            {7, 7, 4}, {7, 7, 5}, {7, 7, 6}, {7, 7, 7}, {7, 7, 7, 1}};
        for (int n = 0; n <= 16; n++) {
            Face x = Links.with(Links.BOTH, new int[n]);
            Links.agree(x, 20);
            x.tell(1, false);
            pieces(n + " bytes told", x, true, told[n]);
            Checks.due(n + " bytes told", n + 1, x.note(0, -1));
        }
        Forged twenty = new Forged();
        twenty.serverGets(Forged.row(22, 1, 0, 1, 2, 3, 4, 5, 6, 7, 8, 9, 10, 11, 12, 13, 14, 15, 16, 17));
        Checks.due("20 bytes, the first piece", 7, Links.piece(twenty.x, true).length);
        for (int size : new int[] {7, 7, 3, 0}) {
            twenty.x.run(1);
            Checks.due("20 bytes, a piece behind it", size, Links.piece(twenty.x, true).length);
        }
    }

    private static void theRowThatWaitsLongest() {
        Face x = Links.with(Links.BOTH, 1, 2, 3, 4, 5);
        Links.add(x, 1, Links.BOTH, 6);
        x.tell(1, false);
        x.tell(2, true);
        x.tell(1, false);
        x.begin(1, 2);
        java.util.List<String> due = java.util.List.of("[27, 1, 1, 2, 3, 4, 5]", "[29, 2, 6]",
                "[27, 1, 1, 2, 3, 4, 5]", "[11, 6]");
        Checks.dueLines("one row behind the other", due, Links.messages(x, true, 8));
    }

    private static void nothingBetweenPieces() {
        for (int kind : new int[] {0, 3}) {
            Forged forged = new Forged();
            forged.holdServer();
            forged.clientGetsKinds(Links.bytes(2, kind, 1, 1, 1, 1, kind, kind, 1, 1),
                    3, 99, 0, 4, 0, 27, 98, 97, 77, 5);
            Checks.dueBytes("kind " + kind + " leaves the row alone", Links.bytes(77, 5), Links.note(forged.x, 0));
        }
    }

    private static void beginsAnewInTheMiddle() {
        Forged forged = new Forged();
        forged.holdServer();
        forged.clientGetsKinds(Links.bytes(2, 1, 1, 1, 1, 2, 1, 1, 1, 1, 1), 3, 0, 4, 0, 27, 2, 0, 4, 0, 27, 78);
        Checks.dueBytes("the row that was begun last", Links.bytes(78), Links.note(forged.x, 0));
    }

    private static void noneHasBegunBehindADroppedRow() {
        int[][] dropped = {{21}, {255}, {3, 0, 5, 0}, {3, 1, 4, 0}, {3, 0, 4, 4}};
        for (int[] row : dropped) {
            Forged forged = new Forged();
            forged.holdServer();
            forged.clientGets(row);
            forged.clientGetsKinds(Links.bytes(1, 1, 1, 1, 1, 1, 1), Forged.row(27, 77, 5));
            Checks.dueNoSuchElement("behind " + row.length + " bytes of a dropped row", () -> forged.x.note(0, -1));
            forged.clientGets(Forged.row(27, 77, 5));
            Checks.dueBytes("a row that begins", Links.bytes(77, 5), Links.note(forged.x, 0));
        }
    }

    private static void noneHasBegunBehindADoneRow() {
        Forged forged = new Forged();
        forged.holdServer();
        forged.clientGets(Forged.row(27, 77, 5));
        forged.clientGetsKinds(Links.bytes(1, 1, 1, 1, 1, 1, 1), Forged.row(27, 78, 6));
        Checks.dueBytes("still the first", Links.bytes(77, 5), Links.note(forged.x, 0));
        Checks.dueNoSuchElement("and no other", () -> forged.x.note(1, -1));
    }

    private static void emptyMessage() {
        Forged forged = new Forged();
        forged.getsInstead(() -> forged.x.raw(Links.number(10, 1), 2), new int[0]);
        Checks.due("no answer", 0, forged.x.outcome());
        forged.clientGetsKinds(Links.bytes(1, 1, 1), 27, 77, 5);
        Checks.dueNoSuchElement("it was done", () -> forged.x.note(0, -1));
        forged.clientGets(Forged.row(27, 77, 5));
        Checks.dueBytes("a row behind it", Links.bytes(77, 5), Links.note(forged.x, 0));
    }

    /** A client that is told nothing of its packet, and gets what it has to confirm. */
    private static Forged confirming(int rows) {
        Forged forged = new Forged();
        forged.holdServer();
        forged.holdClient();
        for (int k = 0; k < rows; k++) {
            forged.clientGets(Forged.row(29, k));
            Checks.due("the note is kept", k, forged.x.note(0, 0));
        }
        return forged;
    }

    private static java.util.List<String> released(Forged forged) {
        forged.releaseClient();
        forged.x.run(1);
        return Links.messages(forged.x, false, 12);
    }

    private static void eightRowsOfTheClientWait() {
        for (int rows = 7; rows <= 10; rows++) {
            Checks.due(rows + " to be confirmed", Math.min(8, rows), released(confirming(rows)).size());
        }
    }

    private static void nineRowsWithARequest() {
        for (int rows = 7; rows <= 8; rows++) {
            Forged forged = confirming(rows);
            forged.x.begin(1, Forged.READ_ME);
            java.util.List<String> sent = released(forged);
            Checks.due("eight rows are sent", 8, sent.size());
            Checks.dueTrue("the request is one of them, if seven waited", sent.contains("[10, 1]") == (rows == 7));
        }
    }

    private static void otherKinds() {
        for (int kind : new int[] {0, 3}) {
            Face x = Links.with(Links.BOTH, 1);
            x.raw(Links.number(18, 1, 9, 8), 4);
            x.run(1);
            x.event(0, Radio.spoil(1 ^ kind, 0), 0);
            Checks.dueBytes("kind " + kind + " is nothing", Links.bytes(1), Links.value(x, 1));
            x.run(1);
            Checks.dueBytes("but acknowledged", Links.bytes(), Links.piece(x, false));
            x.run(28);
            Checks.due("so that no answer comes", 3, x.outcome());
        }
    }

    private static void beginsAnew() {
        Face x = Links.with(Links.BOTH, 1);
        x.raw(Links.number(18, 1, 9, 8), 4);
        x.run(1);
        x.event(0, Radio.spoil(Radio.OTHER_KIND, 0), 0);
        Checks.dueBytes("kind 2 begins anew", Links.bytes(1), Links.value(x, 1));
        x.run(30);
        Checks.due("so that no answer comes", 3, x.outcome());
    }

    private static void rowsOfTheServer() {
        isHandled(true, 3, 0, 4, 0, 27, 77, 5);
        isHandled(false, 3, 1, 4, 0, 27, 77, 5);
        isHandled(false, 3, 0, 5, 0, 27, 77, 5);
        isHandled(false, 3, 0, 4, 1, 27, 77, 5);
        isHandled(false, 4, 0, 4, 0, 27, 77, 5);
        isHandled(false, 0, 0, 4, 0, 27, 77, 5);
        isHandled(true, 20, 0, 4, 0, 27, 77, 5, 3, 4, 5, 6, 7, 8, 9, 10, 11, 12, 13, 14, 15, 16, 17, 18, 19);
        isHandled(false, 21, 0, 4, 0, 27, 77, 5, 3, 4, 5, 6, 7, 8, 9, 10, 11, 12, 13, 14, 15, 16, 17, 18, 19, 20);
    }

    private static void isHandled(boolean due, int... row) {
        Forged forged = new Forged();
        forged.holdServer();
        forged.clientGets(row);
        if (due) {
            Checks.dueBytes("the row is handled", java.util.Arrays.copyOfRange(row, 5, row.length),
                    Links.note(forged.x, 0));
        } else {
            Checks.dueNoSuchElement("the row is not handled", () -> forged.x.note(0, -1));
        }
        forged.x.run(3);
        forged.x.tell(Forged.READ_ME, false);
        forged.x.run(5);
        Checks.due("a whole row comes through behind it", Forged.READ_ME, forged.x.note(0, 0));
    }

    private static void rowsOfTheClient() {
        Forged all = new Forged();
        int[] sixteen = {18, 1, 0, 1, 2, 3, 4, 5, 6, 7, 8, 9, 10, 11, 12, 13, 14, 15};
        Checks.dueBytes("eighteen bytes", Links.bytes(19), all.answerTo(sixteen));
        Checks.due("all are written", 16, all.x.value(1, -1));
        Forged tooMany = new Forged();
        int[] seventeen = java.util.Arrays.copyOf(sixteen, 19);
        Checks.dueBytes("seventeen bytes are no value", Links.bytes(1, 18, 1, 13), tooMany.answerTo(seventeen));
        Checks.due("nothing is written", 9, tooMany.x.value(1, -1));
        Forged part = new Forged();
        int[] twenty = {22, 1, 0, 1, 2, 3, 4, 5, 6, 7, 8, 9, 10, 11, 12, 13, 14, 15, 16, 17};
        int[] echo = twenty.clone();
        echo[0] = 23;
        Checks.dueBytes("twenty bytes there and back", echo, part.answerTo(twenty));
        Checks.dueBytes("the part is too long", Links.bytes(1, 24, 0, 13), Links.ask(part.x, 24, 1));
        isNotAnswered(Links.bytes(21, 0, 4, 0, 18, 1, 2, 3, 4, 5, 6, 7, 8, 9, 10, 11, 12, 13, 14, 15, 16, 17, 18, 19, 20));
        isNotAnswered(Links.bytes(0, 0, 4, 0));
        isNotAnswered(Links.bytes(2, 0, 4, 1, 10, 1));
        isNotAnswered(Links.bytes(4, 0, 4, 0, 10, 1));
    }

    private static void isNotAnswered(int[] row) {
        Forged forged = new Forged();
        forged.serverGets(row);
        Checks.dueBytes("the server has no answer", Links.bytes(), Links.piece(forged.x, true));
        Checks.due("the value stays", 9, forged.x.value(1, -1));
        forged.x.run(29 - row.length);
        Checks.due("so that it times out", 3, forged.x.outcome());
    }

    /** A row of five bytes in all gets six of them. */
    private static void tooLongRowIsDropped() {
        Face x = Links.with(Links.BOTH, 1);
        Links.add(x, 1, Links.READABLE, 0, 0, 0, 0);
        x.tell(2, false);
        x.tell(2, false);
        x.write(1, 5, 1, false);
        x.run(1);
        x.event(0, 0, Radio.spoil(Radio.OTHER_KIND, 1, 0, 4));
        x.event(Links.LOST_DOWN, 0, 0);
        Checks.due("good", 3, x.event(0, Radio.spoil(Radio.FLIP_NEXT), Radio.spoil(Radio.FLIP_TURN, 0, 19, 77)));
        Checks.due("no answer", 0, x.outcome());
        x.run(5);
        Checks.due("the real one comes later", 1, x.outcome());
    }

    private static void emptyPieceIsNotTaken() {
        Face x = Links.with(Links.BOTH, 1);
        Links.add(x, 1, Links.READABLE, 0, 0, 0, 0);
        x.tell(2, false);
        x.run(1);
        x.event(0, 0, Radio.spoil(Radio.OTHER_KIND, 2, 0, 4));
        Checks.due("an empty piece of kind 2", 3, x.event(0, 0, Radio.spoil(Radio.OTHER_KIND)));
        x.tell(2, false);
        x.event(Links.LOST_DOWN, 0, 0);
        x.event(0, Radio.spoil(Radio.FLIP_NEXT), Radio.spoil(Radio.FLIP_TURN, 0, 27, 77));
        Checks.dueBytes("it has begun nothing anew", Links.bytes(77), Links.note(x, 0));
    }

    private static void noRowHasBegun() {
        Forged forged = new Forged();
        forged.newClientGetsUnbegun(Forged.row(27, 77, 5));
        Checks.due("they all came", 9, forged.x.look(1));
        Checks.due("and were good", 0, forged.x.look(2));
        Checks.dueNoSuchElement("but no row had begun", () -> forged.x.note(0, -1));
    }

    private static void eightRowsWait() {
        Forged forged = new Forged();
        forged.holdServer();
        for (int k = 0; k < 4; k++) {
            forged.x.tell(Forged.READ_ME, false);
        }
        for (int k = 0; k < 6; k++) {
            forged.x.begin(1, Forged.READ_ME);
            forged.clientGets(Forged.row(11, k));
            Checks.due("the forged answer", k, forged.x.data(0));
        }
        int rows = 0;
        for (int k = 0; k < 40; k++) {
            forged.x.run(1);
            rows += (Links.packet(forged.x, true)[0] & 3) == 2 ? 1 : 0;
        }
        Checks.due("four told rows and four of six answers", 8, rows);
    }
}
