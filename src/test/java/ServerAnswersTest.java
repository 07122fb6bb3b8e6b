/** What the server answers (the terms of ATTRIBUTES and ERRORS; promises 2, 7, 12, 14 and 16). */
public final class ServerAnswersTest {
    private static final int[] SIXTEEN = {0, 1, 2, 3, 4, 5, 6, 7, 8, 9, 10, 11, 12, 13, 14, 15};

    public static void main(String[] args) {
        limits();
        reads();
        readsFromAPlace();
        finds();
        writes();
        keepsParts();
        writesParts();
        writesPartsOfTheLastHandle();
        refusesParts();
        confirms();
        wrongSizes();
        orderOfErrors();
        Checks.end();
    }

    private static void answers(Face x, int[] message, int... due) {
        Checks.dueBytes("the answer to " + java.util.Arrays.toString(message), due, Links.ask(x, message));
    }

    private static void limits() {
        Face x = Links.fresh();
        int[][] wantedAndDue = {{0, 8}, {7, 8}, {8, 8}, {9, 9}, {19, 19}, {20, 20}, {21, 20}, {255, 20}};
        for (int[] pair : wantedAndDue) {
            answers(x, Links.bytes(2, pair[0]), 3, 20);
            Checks.due("limit " + pair[0], pair[1], x.look(5));
        }
    }

    private static void reads() {
        Face x = Links.with(Links.READABLE, SIXTEEN);
        x.attribute(1, Links.WRITABLE, 0, 1);
        x.attribute(1, Links.READABLE, 0, 0);
        answers(x, Links.bytes(10, 1), 11, 0, 1, 2, 3, 4, 5, 6);
        answers(x, Links.bytes(2, 9), 3, 20);
        answers(x, Links.bytes(10, 1), 11, 0, 1, 2, 3, 4, 5, 6, 7);
        answers(x, Links.bytes(2, 20), 3, 20);
        answers(x, Links.bytes(10, 1), 11, 0, 1, 2, 3, 4, 5, 6, 7, 8, 9, 10, 11, 12, 13, 14, 15);
        answers(x, Links.bytes(10, 2), 1, 10, 2, 2);
        answers(x, Links.bytes(10, 3), 11);
        answers(x, Links.bytes(10, 4), 1, 10, 4, 1);
        answers(x, Links.bytes(10, 0), 1, 10, 0, 1);
        answers(x, Links.bytes(10, 255), 1, 10, 255, 1);
    }

    private static void readsFromAPlace() {
        Face x = Links.with(Links.READABLE, SIXTEEN);
        x.attribute(1, Links.WRITABLE, 0, 1);
        answers(x, Links.bytes(12, 1, 0), 13, 0, 1, 2, 3, 4, 5, 6);
        answers(x, Links.bytes(12, 1, 7), 13, 7, 8, 9, 10, 11, 12, 13);
        answers(x, Links.bytes(12, 1, 15), 13, 15);
        answers(x, Links.bytes(12, 1, 16), 13);
        answers(x, Links.bytes(12, 1, 17), 1, 12, 1, 7);
        answers(x, Links.bytes(12, 1, 255), 1, 12, 1, 7);
        answers(x, Links.bytes(12, 2, 0), 1, 12, 2, 2);
        answers(x, Links.bytes(12, 3, 0), 1, 12, 3, 1);
    }

    private static void finds() {
        Face x = Links.fresh();
        for (int k = 0; k < 10; k++) {
            x.attribute(k % 3, 0, 0, 0);
        }
        answers(x, Links.bytes(16, 1, 0), 17, 1);
        answers(x, Links.bytes(16, 0, 1), 17, 2);
        answers(x, Links.bytes(16, 2, 0), 17, 4);
        answers(x, Links.bytes(16, 10, 0), 17, 10);
        answers(x, Links.bytes(16, 11, 0), 1, 16, 11, 10);
        answers(x, Links.bytes(16, 255, 0), 1, 16, 255, 10);
        answers(x, Links.bytes(16, 10, 1), 1, 16, 10, 10);
        answers(x, Links.bytes(16, 0, 3), 1, 16, 0, 10);
    }

    private static void writes() {
        Face x = Links.with(Links.WRITABLE, SIXTEEN);
        x.attribute(1, Links.READABLE, 5, 1);
        answers(x, Links.bytes(18, 1, 7, 8), 19);
        Checks.dueBytes("the value becomes v", Links.bytes(7, 8), Links.value(x, 1));
        answers(x, Links.bytes(18, 1), 19);
        Checks.dueBytes("an empty value", Links.bytes(), Links.value(x, 1));
        answers(x, Links.bytes(18, 2, 7), 1, 18, 2, 3);
        Checks.dueBytes("left alone", Links.bytes(5), Links.value(x, 2));
        answers(x, Links.bytes(18, 3, 7), 1, 18, 3, 1);
    }

    private static void keepsParts() {
        Face x = Links.with(Links.WRITABLE, 1);
        x.attribute(1, Links.READABLE, 5, 1);
        answers(x, Links.bytes(22, 3, 0), 1, 22, 3, 1);
        answers(x, Links.bytes(22, 2, 0), 1, 22, 2, 3);
        Checks.due("none is kept", 0, x.look(6));
        answers(x, Links.bytes(22, 1, 0), 23, 1, 0);
        answers(x, Links.bytes(22, 1, 255, 9, 8, 7, 6, 5), 23, 1, 255, 9, 8, 7, 6, 5);
        answers(x, Links.bytes(22, 1, 0, 1), 23, 1, 0, 1);
        answers(x, Links.bytes(22, 1, 0, 1), 23, 1, 0, 1);
        answers(x, Links.bytes(22, 1, 0, 1), 1, 22, 1, 9);
        answers(x, Links.bytes(24, 2), 1, 24, 0, 4);
        Checks.due("four are kept", 4, x.look(6));
        answers(x, Links.bytes(24, 0), 25);
        Checks.due("none is kept", 0, x.look(6));
        Checks.dueBytes("nothing is written", Links.bytes(1), Links.value(x, 1));
        answers(x, Links.bytes(24, 1), 25);
        Checks.dueBytes("nothing was left", Links.bytes(1), Links.value(x, 1));
    }

    private static void writesParts() {
        Face x = Links.with(Links.WRITABLE, 1, 2, 3, 4);
        x.attribute(1, Links.BOTH, 0, 0);
        Links.ask(x, 22, 1, 1, 77, 78);
        Links.ask(x, 22, 2, 0, 5, 6, 7);
        Links.ask(x, 22, 1, 4, 9, 8);
        Links.ask(x, 22, 1, 6, 1);
        Checks.dueBytes("nothing yet", Links.bytes(1, 2, 3, 4), Links.value(x, 1));
        answers(x, Links.bytes(24, 1), 25);
        Checks.dueBytes("in order", Links.bytes(1, 77, 78, 4, 9, 8, 1), Links.value(x, 1));
        Checks.dueBytes("of another handle", Links.bytes(5, 6, 7), Links.value(x, 2));
        Links.ask(x, 22, 2, 0, 1, 1, 1);
        Links.ask(x, 22, 2, 1, 2);
        answers(x, Links.bytes(24, 1), 25);
        Checks.dueBytes("one over the other", Links.bytes(1, 2, 1), Links.value(x, 2));
    }

    private static void writesPartsOfTheLastHandle() {
        Face x = Links.fresh();
        for (int k = 0; k < 10; k++) {
            x.attribute(k, Links.BOTH, k, 1);
        }
        Links.ask(x, 22, 10, 1, 5);
        answers(x, Links.bytes(24, 1), 25);
        Checks.dueBytes("handle 10", Links.bytes(9, 5), Links.value(x, 10));
        Checks.dueBytes("handle 9", Links.bytes(8), Links.value(x, 9));
    }

    private static void refusesParts() {
        Face x = Links.with(Links.BOTH, 1, 2, 3, 4, 5, 6, 7, 8, 9, 10, 11, 12, 13, 14);
        x.attribute(1, Links.BOTH, 3, 1);
        Links.ask(x, 22, 2, 0, 77);
        Links.ask(x, 22, 1, 15);
        answers(x, Links.bytes(24, 1), 1, 24, 0, 7);
        Checks.dueBytes("nothing is written", Links.bytes(3), Links.value(x, 2));
        Checks.due("and nothing kept", 0, x.look(6));
        Links.ask(x, 22, 1, 14, 15, 16);
        Links.ask(x, 22, 1, 16);
        answers(x, Links.bytes(24, 1), 25);
        Checks.due("sixteen", 16, x.value(1, -1));
        Links.ask(x, 22, 2, 0, 77);
        Links.ask(x, 22, 1, 15, 1, 2);
        answers(x, Links.bytes(24, 1), 1, 24, 0, 13);
        Checks.dueBytes("nothing is written", Links.bytes(3), Links.value(x, 2));
        Links.ask(x, 22, 1, 15, 1, 2);
        Links.ask(x, 22, 1, 17);
        answers(x, Links.bytes(24, 1), 1, 24, 0, 13);
        Links.ask(x, 22, 1, 17, 1);
        answers(x, Links.bytes(24, 1), 1, 24, 0, 7);
        Links.ask(x, 22, 1, 16, 1);
        answers(x, Links.bytes(24, 1), 1, 24, 0, 13);
        Links.ask(x, 22, 2, 1, 4);
        x.put(2, true, 0, 0);
        answers(x, Links.bytes(24, 1), 1, 24, 0, 7);
        Links.ask(x, 22, 1, 17, 1);
        answers(x, Links.bytes(24, 0), 25);
    }

    private static void confirms() {
        Face x = Links.with(Links.BOTH, 1, 2, 3);
        for (int k = 0; k < 3; k++) {
            x.tell(1, false);
        }
        x.tell(1, true);
        x.raw(Links.number(30, 1), 2);
        x.run(1);
        Checks.due("30 with more bytes confirms nothing", 1, x.look(8));
        x.run(29);
        Checks.due("and is not answered", 3, x.outcome());
        Checks.due("the client confirmed it", 0, x.look(8));
        Face y = Links.with(Links.BOTH, 1, 2, 3);
        y.tell(1, true);
        y.raw(30, 1);
        y.run(1);
        Checks.due("30 confirms what is still on its way", 0, y.look(8));
        y.run(29);
        Checks.due("and is not answered", 3, y.outcome());
    }

    private static void wrongSizes() {
        Face x = Links.with(Links.BOTH, 1);
        int[][] wrong = {{2}, {2, 8, 8}, {10}, {10, 1, 0}, {12}, {12, 1}, {12, 1, 0, 0}, {16}, {16, 1}, {16, 1, 1, 1},
            {18}, {22}, {22, 1}, {24}, {24, 2}, {24, 255}, {24, 1, 1}, {24, 0, 0}};
        for (int[] message : wrong) {
            answers(x, message, 1, message[0], 0, 4);
        }
        for (int first : new int[] {0, 1, 3, 9, 11, 14, 19, 20, 25, 26, 27, 28, 29, 31, 255}) {
            answers(x, Links.bytes(first), 1, first, 0, 6);
            answers(x, Links.bytes(first, 1, 2), 1, first, 0, 6);
        }
        Checks.due("the limit stays", 8, x.look(5));
        Checks.due("no part is kept", 0, x.look(6));
        Checks.dueBytes("the value stays", Links.bytes(1), Links.value(x, 1));
    }

    private static void orderOfErrors() {
        Face x = Links.with(0, 1);
        answers(x, Links.bytes(12, 9, 99), 1, 12, 9, 1);
        answers(x, Links.bytes(12, 1, 99), 1, 12, 1, 2);
        answers(x, Links.bytes(12, 9), 1, 12, 0, 4);
        x.attribute(1, Links.BOTH, 0, 0);
        for (int k = 0; k < 4; k++) {
            Links.ask(x, 22, 2, 0);
        }
        answers(x, Links.bytes(22, 9, 0), 1, 22, 9, 1);
        answers(x, Links.bytes(22, 1, 0), 1, 22, 1, 3);
        answers(x, Links.bytes(22, 2, 0), 1, 22, 2, 9);
        answers(x, Links.bytes(22, 2), 1, 22, 0, 4);
    }
}
