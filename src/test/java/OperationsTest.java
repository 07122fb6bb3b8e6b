/** The client's operations and the answers that end them (promises 5, 6, 10, 11 and 12). */
public final class OperationsTest {
    public static void main(String[] args) {
        agreesOnALimit();
        limitOfTheAnswer();
        readsAll();
        readsAllWithAnotherLimit();
        readsAllKeepsSixteen();
        requestsOfReadAll();
        answersNearTheLimit();
        requestsOfWriteAll();
        requestsOfFind();
        finds();
        wrongAnswers();
        writeAllTakesBack();
        wrongEchoes();
        whatIsNoAnswer();
        everyFirstByte();
        forgedFind();
        manyRowsOfTheServer();
        Checks.end();
    }

    private static void ends(Face x, int outcome, int error, int... data) {
        Checks.due("outcome", outcome, x.outcome());
        Checks.due("error", error, x.error());
        Checks.dueBytes("data", data, Links.data(x));
    }

    private static void agreesOnALimit() {
        Face x = Links.fresh();
        int[][] wantedAndDue = {{255, 20}, {0, 8}, {20, 20}, {7, 8}, {21, 20}, {8, 8}, {13, 13}, {9, 9}};
        for (int[] pair : wantedAndDue) {
            Links.agree(x, pair[0]);
            ends(x, 1, 0);
            Checks.due("the client's limit", pair[1], x.look(4));
            Checks.due("the server's limit", pair[1], x.look(5));
        }
        Forged lower = new Forged();
        lower.getsInstead(() -> lower.x.begin(0, 18), 3, 15);
        Checks.due("the lesser one", 15, lower.x.look(4));
        Forged lowest = new Forged();
        lowest.getsInstead(() -> lowest.x.begin(0, 18), 3, 1);
        Checks.due("at least 8", 8, lowest.x.look(4));
        Forged highest = new Forged();
        highest.getsInstead(() -> highest.x.begin(0, 255), 3, 200);
        Checks.due("at most 20", 20, highest.x.look(4));
    }

    /** The lesser of 18 and the second byte, but at least 8; or of 255 and it, but at most 20. */
    private static void limitOfTheAnswer() {
        int[][] saidAndDue = {{0, 8, 8}, {7, 8, 8}, {8, 8, 8}, {9, 9, 9}, {17, 17, 17}, {18, 18, 18}, {19, 18, 19},
            {20, 18, 20}, {21, 18, 20}, {255, 18, 20}};
        for (int[] three : saidAndDue) {
            Forged lesser = new Forged();
            lesser.getsInstead(() -> lesser.x.begin(0, 18), 3, three[0]);
            Checks.due("18 and " + three[0], three[1], lesser.x.look(4));
            Forged most = new Forged();
            most.getsInstead(() -> most.x.begin(0, 255), 3, three[0], 99);
            Checks.due("255 and " + three[0], three[2], most.x.look(4));
            ends(most.x, 1, 0);
        }
        Forged wrong = new Forged();
        wrong.getsInstead(() -> wrong.x.begin(0, 18), 3);
        Checks.due("a wrong answer leaves the limit alone", 8, wrong.x.look(4));
    }

    private static void requests(Face x, String... due) {
        Checks.dueLines("requests", java.util.List.of(due), Links.messages(x, false, 20));
        Checks.due("done", 1, x.outcome());
    }

    private static Face reading(int limit, int n) {
        Face x = Links.with(Links.READABLE, new int[n]);
        Links.agree(x, limit);
        x.begin(2, 1);
        return x;
    }

    private static void requestsOfReadAll() {
        requests(reading(8, 0), "[10, 1]");
        requests(reading(8, 6), "[10, 1]");
        requests(reading(8, 7), "[10, 1]", "[12, 1, 7]");
        requests(reading(8, 8), "[10, 1]", "[12, 1, 7]");
        requests(reading(8, 13), "[10, 1]", "[12, 1, 7]");
        requests(reading(8, 14), "[10, 1]", "[12, 1, 7]", "[12, 1, 14]");
        requests(reading(8, 16), "[10, 1]", "[12, 1, 7]", "[12, 1, 14]");
        requests(reading(9, 16), "[10, 1]", "[12, 1, 8]");
        requests(reading(16, 14), "[10, 1]");
        requests(reading(16, 15), "[10, 1]", "[12, 1, 15]");
        requests(reading(16, 16), "[10, 1]", "[12, 1, 15]");
        requests(reading(17, 16), "[10, 1]");
        requests(reading(20, 16), "[10, 1]");
    }

    /** The client's limit is 8. */
    private static void answersNearTheLimit() {
        for (int n = 6; n <= 10; n++) {
            int[] answer = new int[n];
            answer[0] = 11;
            Forged forged = new Forged();
            forged.getsInstead(() -> forged.x.begin(2, 1), answer);
            Checks.due("an answer of " + n + " bytes", n == 8 ? 0 : 1, forged.x.outcome());
            Checks.due("its data", n - 1, forged.x.data(-1));
        }
    }

    private static Face writing(int limit, int n) {
        Face x = Links.with(Links.WRITABLE, 1);
        Links.agree(x, limit);
        x.write(1, 0x0102030405060708L, n, true);
        return x;
    }

    private static void requestsOfWriteAll() {
        requests(writing(8, 0), "[22, 1, 0]", "[24, 1]");
        requests(writing(8, 1), "[22, 1, 0, 8]", "[24, 1]");
        requests(writing(8, 4), "[22, 1, 0, 5, 6, 7, 8]", "[24, 1]");
        requests(writing(8, 5), "[22, 1, 0, 4, 5, 6, 7, 8]", "[24, 1]");
        requests(writing(8, 6), "[22, 1, 0, 3, 4, 5, 6, 7]", "[22, 1, 5, 8]", "[24, 1]");
        requests(writing(8, 8), "[22, 1, 0, 1, 2, 3, 4, 5]", "[22, 1, 5, 6, 7, 8]", "[24, 1]");
        requests(writing(9, 8), "[22, 1, 0, 1, 2, 3, 4, 5, 6]", "[22, 1, 6, 7, 8]", "[24, 1]");
        requests(writing(10, 8), "[22, 1, 0, 1, 2, 3, 4, 5, 6, 7]", "[22, 1, 7, 8]", "[24, 1]");
        requests(writing(11, 8), "[22, 1, 0, 1, 2, 3, 4, 5, 6, 7, 8]", "[24, 1]");
        requests(writing(20, 8), "[22, 1, 0, 1, 2, 3, 4, 5, 6, 7, 8]", "[24, 1]");
    }

    private static void requestsOfFind() {
        Face x = Links.fresh();
        for (int k = 0; k < 10; k++) {
            x.attribute(k == 0 || k == 4 || k == 9 ? 255 : 0, 0, 0, 0);
        }
        x.begin(3, 255);
        requests(x, "[16, 1, 255]", "[16, 2, 255]", "[16, 6, 255]", "[16, 11, 255]");
        ends(x, 1, 0, 1, 5, 10);
        Face none = Links.fresh();
        none.begin(3, 0);
        requests(none, "[16, 1, 0]");
        ends(none, 1, 0);
        Face ten = Links.fresh();
        for (int k = 0; k < 10; k++) {
            ten.attribute(0, 0, 0, 0);
        }
        ten.begin(3, 0);
        Checks.due("ten requests", 10, Links.messages(ten, false, 20).size());
        ends(ten, 1, 0, 1, 2, 3, 4, 5, 6, 7, 8, 9, 10);
    }

    private static void readsAll() {
        int[] all = {1, 2, 3, 4, 5, 6, 7, 8, 9, 10, 11, 12, 13, 14, 15, 16};
        for (int limit = 8; limit <= 20; limit++) {
            for (int n = 0; n <= 16; n++) {
                int[] value = java.util.Arrays.copyOf(all, n);
                Face x = Links.with(Links.READABLE, value);
                Links.agree(x, limit);
                x.begin(2, 1);
                x.run(20);
                ends(x, 1, 0, value);
                x.begin(1, 1);
                x.run(9);
                ends(x, 1, 0, java.util.Arrays.copyOf(all, Math.min(n, limit - 1)));
            }
        }
        Face y = Links.with(Links.READABLE, 1, 2, 3, 4, 5, 6, 7);
        y.begin(2, 1);
        y.run(3);
        Checks.dueBytes("an answer of limit bytes asks for more", Links.bytes(3, 0, 4, 0, 12, 1, 7), Links.piece(y, false));
        Checks.due("which is nothing", 1, y.outcome());
        Face z = Links.with(Links.READABLE, all);
        Links.agree(z, 17);
        z.begin(2, 1);
        z.run(3);
        Checks.due("sixteen are enough", 1, z.outcome());
    }

    private static void readsAllWithAnotherLimit() {
        Face x = Links.with(Links.READABLE, 1, 2, 3, 4, 5, 6, 7, 8, 9, 10);
        Links.ask(x, 2, 12);
        x.begin(2, 1);
        x.run(3);
        Checks.dueBytes("eleven bytes are not the client's eight", Links.bytes(), Links.piece(x, false));
        ends(x, 1, 0, 1, 2, 3, 4, 5, 6, 7, 8, 9, 10);
        Face y = Links.with(Links.READABLE, 1, 2, 3, 4, 5, 6, 7, 8, 9, 10, 11, 12, 13, 14);
        y.begin(2, 1);
        y.run(2);
        y.put(1, false, 0x0F10, 2);
        y.run(20);
        ends(y, 1, 0, 1, 2, 3, 4, 5, 6, 7, 8, 9, 10, 11, 12, 13, 14, 15, 16);
    }

    private static void readsAllKeepsSixteen() {
        Forged forged = new Forged();
        forged.getsInstead(() -> forged.x.begin(2, 1), 11, 1, 2, 3, 4, 5, 6, 7);
        Checks.due("it goes on", 0, forged.x.outcome());
        forged.clientGets(Forged.row(13, 8, 9, 10, 11, 12, 13, 14, 15, 16, 17, 18, 19, 20, 21));
        ends(forged.x, 1, 0, 1, 2, 3, 4, 5, 6, 7, 8, 9, 10, 11, 12, 13, 14, 15, 16);
        Forged first = new Forged();
        first.getsInstead(() -> first.x.begin(2, 1), 11, 1, 2, 3, 4, 5, 6, 7, 8, 9, 10, 11, 12, 13, 14, 15, 16, 17, 18);
        ends(first.x, 1, 0, 1, 2, 3, 4, 5, 6, 7, 8, 9, 10, 11, 12, 13, 14, 15, 16);
        Forged read = new Forged();
        read.getsInstead(() -> read.x.begin(1, 1), 11, 1, 2, 3, 4, 5, 6, 7, 8, 9, 10, 11, 12, 13, 14, 15, 16, 17, 18);
        ends(read.x, 1, 0, 1, 2, 3, 4, 5, 6, 7, 8, 9, 10, 11, 12, 13, 14, 15, 16, 17, 18);
    }

    private static void finds() {
        Face x = Links.fresh();
        for (int k = 0; k < 9; k++) {
            x.attribute(k % 2, 0, 0, 0);
        }
        x.begin(3, 0);
        x.run(20);
        ends(x, 1, 0, 1, 3, 5, 7, 9);
        x.begin(3, 1);
        x.run(20);
        ends(x, 1, 0, 2, 4, 6, 8);
        x.begin(3, 2);
        x.run(20);
        ends(x, 1, 0);
        Face y = Links.fresh();
        for (int k = 0; k < 10; k++) {
            y.attribute(7, 0, 0, 0);
        }
        y.begin(3, 7);
        y.run(9);
        Checks.due("nine are found", 0, y.outcome());
        y.run(1);
        ends(y, 1, 0, 1, 2, 3, 4, 5, 6, 7, 8, 9, 10);
        y.run(1);
        Checks.dueBytes("ten are enough", Links.bytes(), Links.piece(y, false));
    }

    private static void getsWrong(String what, int operation, int argument, int... answer) {
        Forged forged = new Forged();
        forged.getsInstead(() -> forged.x.begin(operation, argument), answer);
        Checks.due(what + ": ended with an error", 2, forged.x.outcome());
        Checks.due(what + ": error 14", 14, forged.x.error());
        forged.x.run(10);
        Checks.due(what + ": the real answer comes too late", 14, forged.x.error());
        Checks.due(what + ": no data", 0, forged.x.data(-1));
    }

    private static void wrongAnswers() {
        getsWrong("LIMIT", 0, 9, 3);
        getsWrong("LIMIT", 0, 9, 5, 20);
        getsWrong("READ", 1, 1, 13, 1);
        getsWrong("READ", 1, 1, 9, 1);
        getsWrong("an error of three bytes", 1, 1, 1, 10, 1);
        getsWrong("an error of five bytes", 1, 1, 1, 10, 1, 2, 3);
        getsWrong("READ ALL", 2, 1, 13, 1);
        getsWrong("FIND", 3, 1, 17);
        getsWrong("FIND", 3, 1, 19, 1);
        Forged write = new Forged();
        write.getsInstead(() -> write.x.write(1, 5, 1, false), 25);
        ends(write.x, 2, 14);
        Forged all = new Forged();
        all.getsInstead(() -> all.x.write(1, 0, 0, true), 25);
        ends(all.x, 2, 14);
        Forged longer = new Forged();
        longer.getsInstead(() -> longer.x.write(1, 5, 1, false), 19, 1, 2);
        ends(longer.x, 1, 0);
    }

    private static void writeAllTakesBack() {
        Face x = Links.with(Links.BOTH, 1);
        x.write(1, Links.number(9, 8), 2, true);
        x.run(2);
        Checks.due("the part is kept", 1, x.look(6));
        Checks.dueBytes("the echo begins", Links.bytes(5, 0, 4, 0, 23, 1, 0), Links.piece(x, true));
        x.event(0, 0, Radio.spoil(0, 0, 1));
        Checks.dueBytes("its last byte is spoilt", Links.bytes(9, 8), Links.piece(x, true));
        Checks.due("it goes on", 0, x.outcome());
        x.event(Links.LOST_DOWN, 0, 0);
        Checks.dueBytes("24 0", Links.bytes(2, 0, 4, 0, 24, 0), Links.piece(x, false));
        Checks.due("no part is kept", 0, x.look(6));
        Checks.due("it goes on until the answer is here", 0, x.outcome());
        x.run(1);
        ends(x, 2, 14);
        Checks.dueBytes("nothing is written", Links.bytes(1), Links.value(x, 1));
        x.begin(1, 1);
        x.run(3);
        ends(x, 1, 0, 1);
    }

    /** An echo that is too long or too short is no echo, and an error behind 24 0 is error 14 as well. */
    private static void wrongEchoes() {
        for (int[] echo : new int[][] {{23}, {23, 1}, {23, 1, 1}, {23, 2, 0}, {23, 1, 0, 0}}) {
            Forged forged = new Forged();
            forged.getsInstead(() -> forged.x.write(1, 0, 0, true), echo);
            forged.x.run(1);
            Checks.dueBytes("24 0", Links.bytes(2, 0, 4, 0, 24, 0), Links.piece(forged.x, false));
            // The real echo, 23 1 0, is taken as the answer to 24 0, whatever it is.
            forged.x.run(5);
            ends(forged.x, 2, 14);
        }
        Forged right = new Forged();
        right.getsInstead(() -> right.x.write(1, 0, 0, true), 23, 1, 0);
        right.x.run(1);
        Checks.dueBytes("24 1", Links.bytes(2, 0, 4, 0, 24, 1), Links.piece(right.x, false));
    }

    private static void whatIsNoAnswer() {
        for (int[] message : new int[][] {{}, {10, 1}, {0}, {26}, {27}, {29}, {27, 1}, {29, 1, 2}}) {
            Forged forged = new Forged();
            forged.getsInstead(() -> forged.x.begin(1, Forged.READ_ME), message);
            Checks.due("this is no answer: " + java.util.Arrays.toString(message), 0, forged.x.outcome());
            forged.x.run(8);
            ends(forged.x, 1, 0, 9, 8, 7, 6, 5, 4, 3);
        }
        Forged none = new Forged();
        none.getsInstead(() -> { }, 11, 5);
        Checks.dueNoSuchElement("an answer without a request", none.x::outcome);
        Checks.due("no data", 0, none.x.data(-1));
    }

    /** What begins with an odd byte is the answer to RAW, but for 27 and 29; even bytes are nothing. */
    private static void everyFirstByte() {
        for (int first = 0; first < 256; first++) {
            Forged forged = new Forged();
            forged.getsInstead(() -> forged.x.raw(Links.number(10, 1), 2), first, 77);
            boolean isNote = first == 27 || first == 29;
            boolean isAnswer = first % 2 == 1 && !isNote;
            Checks.due("first byte " + first, isAnswer ? 1 : 0, forged.x.outcome());
            Checks.due("its data", isAnswer ? 2 : 0, forged.x.data(-1));
            if (isNote) {
                Checks.dueBytes("a note", Links.bytes(77), Links.note(forged.x, 0));
            } else {
                Checks.dueNoSuchElement("no note", () -> forged.x.note(0, -1));
            }
        }
    }

    private static void forgedFind() {
        Forged forged = new Forged();
        forged.getsInstead(() -> forged.x.begin(3, 1), 17, 255);
        forged.x.run(1);
        Checks.dueBytes("from 256 modulo 256 on", Links.bytes(3, 0, 4, 0, 16, 0, 1), Links.piece(forged.x, false));
        Checks.dueBytes("the handle said", Links.bytes(255), Links.data(forged.x));
        Forged other = new Forged();
        other.getsInstead(() -> other.x.begin(3, 1), 1, 16, 1, 6);
        ends(other.x, 2, 6);
        Forged read = new Forged();
        read.getsInstead(() -> read.x.begin(1, 1), 1, 10, 1, 10);
        ends(read.x, 2, 10);
    }

    /** What the server tells goes between the answers of an operation and does not disturb it. */
    private static void manyRowsOfTheServer() {
        Face x = Links.with(Links.READABLE, 1, 2, 3, 4, 5, 6, 7, 8, 9);
        x.attribute(2, Links.BOTH, 77, 1);
        x.begin(2, 1);
        for (int k = 0; k < 12; k++) {
            x.tell(2, k % 4 == 0);
            x.run(2);
        }
        x.run(10);
        ends(x, 1, 0, 1, 2, 3, 4, 5, 6, 7, 8, 9);
        Checks.dueBytes("the latest note", Links.bytes(2, 77), Links.note(x, 0));
        Checks.due("all is confirmed", 0, x.look(8));
    }
}
