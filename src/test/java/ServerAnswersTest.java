/** What the server answers (the terms of ATTRIBUTES and ERRORS; promises 2, 7, 12, 14 and 16). */
public final class ServerAnswersTest {
    private static final int[] SIXTEEN = {0, 1, 2, 3, 4, 5, 6, 7, 8, 9, 10, 11, 12, 13, 14, 15};

    public static void main(String[] args) {
        limits();
        reads();
        readsFromAPlace();
        readsFromEveryPlace();
        finds();
        writes();
        keepsParts();
        writesParts();
        writesPartsOfTheLastHandle();
        refusesParts();
        firstWrongPartDecides();
        placesOfParts();
        fourPartsOfManyHandles();
        confirms();
        confirmsNothing();
        wrongSizes();
        wrongSizesOfLongMessages();
        everyOtherFirstByte();
        orderOfErrors();
        errorsChangeNothing();
        Checks.end();
    }

    private static void answers(Face x, int[] message, int... due) {
        Checks.dueBytes("the answer to " + java.util.Arrays.toString(message), due, Links.ask(x, message));
    }

    private static void limits() {
        Face x = Links.fresh();
        int[][] wantedAndDue = {{0, 8}, {7, 8}, {8, 8}, {9, 9}, {19, 19}, {20, 20}, {21, 20}, {255, 20}};
        for (int[] pair : wantedAndDue) {
            answers(x, Links.bytes(2, pair[0]), 3, 20);
            Checks.due("limit " + pair[0], pair[1], x.look(5));
        }
    }

    private static void reads() {
        Face x = Links.with(Links.READABLE, SIXTEEN);
        x.attribute(1, Links.WRITABLE, 0, 1);
        x.attribute(1, Links.READABLE, 0, 0);
        answers(x, Links.bytes(10, 1), 11, 0, 1, 2, 3, 4, 5, 6);
        answers(x, Links.bytes(2, 9), 3, 20);
        answers(x, Links.bytes(10, 1), 11, 0, 1, 2, 3, 4, 5, 6, 7);
        answers(x, Links.bytes(2, 20), 3, 20);
        answers(x, Links.bytes(10, 1), 11, 0, 1, 2, 3, 4, 5, 6, 7, 8, 9, 10, 11, 12, 13, 14, 15);
        answers(x, Links.bytes(10, 2), 1, 10, 2, 2);
        answers(x, Links.bytes(10, 3), 11);
        answers(x, Links.bytes(10, 4), 1, 10, 4, 1);
        answers(x, Links.bytes(10, 0), 1, 10, 0, 1);
        answers(x, Links.bytes(10, 255), 1, 10, 255, 1);
    }

    private static void readsFromAPlace() {
        Face x = Links.with(Links.READABLE, SIXTEEN);
        x.attribute(1, Links.WRITABLE, 0, 1);
        answers(x, Links.bytes(12, 1, 0), 13, 0, 1, 2, 3, 4, 5, 6);
        answers(x, Links.bytes(12, 1, 7), 13, 7, 8, 9, 10, 11, 12, 13);
        answers(x, Links.bytes(12, 1, 15), 13, 15);
        answers(x, Links.bytes(12, 1, 16), 13);
        answers(x, Links.bytes(12, 1, 17), 1, 12, 1, 7);
        answers(x, Links.bytes(12, 1, 255), 1, 12, 1, 7);
        answers(x, Links.bytes(12, 2, 0), 1, 12, 2, 2);
        answers(x, Links.bytes(12, 3, 0), 1, 12, 3, 1);
    }

    private static void readsFromEveryPlace() {
        for (int limit : new int[] {8, 9, 16, 17, 18, 20}) {
            for (int n : new int[] {0, 1, 7, 8, 15, 16}) {
                Face x = Links.with(Links.READABLE, java.util.Arrays.copyOf(SIXTEEN, n));
                Links.agree(x, limit);
                for (int place : new int[] {0, 1, n - 1, n}) {
                    if (place >= 0 && place <= n) {
                        int[] due = new int[1 + Math.min(limit - 1, n - place)];
                        due[0] = 13;
                        System.arraycopy(SIXTEEN, place, due, 1, due.length - 1);
                        answers(x, Links.bytes(12, 1, place), due);
                    }
                }
                answers(x, Links.bytes(12, 1, n + 1), 1, 12, 1, 7);
                answers(x, Links.bytes(12, 1, 255), 1, 12, 1, 7);
            }
        }
    }

    private static void finds() {
        Face x = Links.fresh();
        for (int k = 0; k < 10; k++) {
            x.attribute(k % 3, 0, 0, 0);
        }
        answers(x, Links.bytes(16, 1, 0), 17, 1);
        answers(x, Links.bytes(16, 0, 1), 17, 2);
        answers(x, Links.bytes(16, 2, 0), 17, 4);
        answers(x, Links.bytes(16, 10, 0), 17, 10);
        answers(x, Links.bytes(16, 11, 0), 1, 16, 11, 10);
        answers(x, Links.bytes(16, 255, 0), 1, 16, 255, 10);
        answers(x, Links.bytes(16, 10, 1), 1, 16, 10, 10);
        answers(x, Links.bytes(16, 0, 3), 1, 16, 0, 10);
    }

    private static void writes() {
        Face x = Links.with(Links.WRITABLE, SIXTEEN);
        x.attribute(1, Links.READABLE, 5, 1);
        answers(x, Links.bytes(18, 1, 7, 8), 19);
        Checks.dueBytes("the value becomes v", Links.bytes(7, 8), Links.value(x, 1));
        answers(x, Links.bytes(18, 1), 19);
        Checks.dueBytes("an empty value", Links.bytes(), Links.value(x, 1));
        answers(x, Links.bytes(18, 2, 7), 1, 18, 2, 3);
        Checks.dueBytes("left alone", Links.bytes(5), Links.value(x, 2));
        answers(x, Links.bytes(18, 3, 7), 1, 18, 3, 1);
    }

    private static void keepsParts() {
        Face x = Links.with(Links.WRITABLE, 1);
        x.attribute(1, Links.READABLE, 5, 1);
        answers(x, Links.bytes(22, 3, 0), 1, 22, 3, 1);
        answers(x, Links.bytes(22, 2, 0), 1, 22, 2, 3);
        Checks.due("none is kept", 0, x.look(6));
        answers(x, Links.bytes(22, 1, 0), 23, 1, 0);
        answers(x, Links.bytes(22, 1, 255, 9, 8, 7, 6, 5), 23, 1, 255, 9, 8, 7, 6, 5);
        answers(x, Links.bytes(22, 1, 0, 1), 23, 1, 0, 1);
        answers(x, Links.bytes(22, 1, 0, 1), 23, 1, 0, 1);
        answers(x, Links.bytes(22, 1, 0, 1), 1, 22, 1, 9);
        answers(x, Links.bytes(24, 2), 1, 24, 0, 4);
        Checks.due("four are kept", 4, x.look(6));
        answers(x, Links.bytes(24, 0), 25);
        Checks.due("none is kept", 0, x.look(6));
        Checks.dueBytes("nothing is written", Links.bytes(1), Links.value(x, 1));
        answers(x, Links.bytes(24, 1), 25);
        Checks.dueBytes("nothing was left", Links.bytes(1), Links.value(x, 1));
    }

    private static void writesParts() {
        Face x = Links.with(Links.WRITABLE, 1, 2, 3, 4);
        x.attribute(1, Links.BOTH, 0, 0);
        Links.ask(x, 22, 1, 1, 77, 78);
        Links.ask(x, 22, 2, 0, 5, 6, 7);
        Links.ask(x, 22, 1, 4, 9, 8);
        Links.ask(x, 22, 1, 6, 1);
        Checks.dueBytes("nothing yet", Links.bytes(1, 2, 3, 4), Links.value(x, 1));
        answers(x, Links.bytes(24, 1), 25);
        Checks.dueBytes("in order", Links.bytes(1, 77, 78, 4, 9, 8, 1), Links.value(x, 1));
        Checks.dueBytes("of another handle", Links.bytes(5, 6, 7), Links.value(x, 2));
        Links.ask(x, 22, 2, 0, 1, 1, 1);
        Links.ask(x, 22, 2, 1, 2);
        answers(x, Links.bytes(24, 1), 25);
        Checks.dueBytes("one over the other", Links.bytes(1, 2, 1), Links.value(x, 2));
    }

    private static void writesPartsOfTheLastHandle() {
        Face x = Links.fresh();
        for (int k = 0; k < 10; k++) {
            x.attribute(k, Links.BOTH, k, 1);
        }
        Links.ask(x, 22, 10, 1, 5);
        answers(x, Links.bytes(24, 1), 25);
        Checks.dueBytes("handle 10", Links.bytes(9, 5), Links.value(x, 10));
        Checks.dueBytes("handle 9", Links.bytes(8), Links.value(x, 9));
    }

    private static void refusesParts() {
        Face x = Links.with(Links.BOTH, 1, 2, 3, 4, 5, 6, 7, 8, 9, 10, 11, 12, 13, 14);
        x.attribute(1, Links.BOTH, 3, 1);
        Links.ask(x, 22, 2, 0, 77);
        Links.ask(x, 22, 1, 15);
        answers(x, Links.bytes(24, 1), 1, 24, 0, 7);
        Checks.dueBytes("nothing is written", Links.bytes(3), Links.value(x, 2));
        Checks.due("and nothing kept", 0, x.look(6));
        Links.ask(x, 22, 1, 14, 15, 16);
        Links.ask(x, 22, 1, 16);
        answers(x, Links.bytes(24, 1), 25);
        Checks.due("sixteen", 16, x.value(1, -1));
        Links.ask(x, 22, 2, 0, 77);
        Links.ask(x, 22, 1, 15, 1, 2);
        answers(x, Links.bytes(24, 1), 1, 24, 0, 13);
        Checks.dueBytes("nothing is written", Links.bytes(3), Links.value(x, 2));
        Links.ask(x, 22, 1, 15, 1, 2);
        Links.ask(x, 22, 1, 17);
        answers(x, Links.bytes(24, 1), 1, 24, 0, 13);
        Links.ask(x, 22, 1, 17, 1);
        answers(x, Links.bytes(24, 1), 1, 24, 0, 7);
        Links.ask(x, 22, 1, 16, 1);
        answers(x, Links.bytes(24, 1), 1, 24, 0, 13);
        Links.ask(x, 22, 2, 1, 4);
        x.put(2, true, 0, 0);
        answers(x, Links.bytes(24, 1), 1, 24, 0, 7);
        Links.ask(x, 22, 1, 17, 1);
        answers(x, Links.bytes(24, 0), 25);
    }

    private static void firstWrongPartDecides() {
        Face x = Links.with(Links.BOTH, SIXTEEN);
        x.attribute(1, Links.BOTH, 3, 1);
        Links.ask(x, 22, 2, 2);
        Links.ask(x, 22, 1, 16, 1);
        answers(x, Links.bytes(24, 1), 1, 24, 0, 7);
        Links.ask(x, 22, 1, 16, 1);
        Links.ask(x, 22, 2, 2);
        answers(x, Links.bytes(24, 1), 1, 24, 0, 13);
        Links.ask(x, 22, 2, 1, 8);
        Links.ask(x, 22, 2, 3);
        answers(x, Links.bytes(24, 1), 1, 24, 0, 7);
        Checks.dueBytes("nothing is written", Links.bytes(3), Links.value(x, 2));
        Checks.due("nothing is kept", 0, x.look(6));
    }

    /** Each place of a value of each length: a gap is error 7, more than sixteen error 13. */
    private static void placesOfParts() {
        for (int n : new int[] {0, 1, 8, 15, 16}) {
            for (int place : new int[] {0, 1, 7, 8, 9, 14, 15, 16, 17, 255}) {
                for (int more = 0; more <= 3; more++) {
                    int[] old = java.util.Arrays.copyOf(SIXTEEN, n);
                    Face x = Links.with(Links.BOTH, old);
                    int[] part = {22, 1, place, 77, 77, 77};
                    Links.ask(x, java.util.Arrays.copyOf(part, 3 + more));
                    int code = place > n ? 7 : place + more > 16 ? 13 : 0;
                    answers(x, Links.bytes(24, 1), code == 0 ? Links.bytes(25) : Links.bytes(1, 24, 0, code));
                    int[] due = code == 0 ? overlaid(old, place, more) : old;
                    Checks.dueBytes(n + " bytes, " + more + " at " + place, due, Links.value(x, 1));
                }
            }
        }
    }

    private static int[] overlaid(int[] old, int place, int more) {
        int[] row = java.util.Arrays.copyOf(old, Math.max(old.length, place + more));
        java.util.Arrays.fill(row, place, place + more, 77);
        return row;
    }

    private static void fourPartsOfManyHandles() {
        Face x = Links.fresh();
        for (int k = 0; k < 5; k++) {
            x.attribute(1, Links.BOTH, 0, 0);
        }
        for (int round = 0; round < 2; round++) {
            for (int handle = 1; handle <= 4; handle++) {
                answers(x, Links.bytes(22, handle, 0, handle), 23, handle, 0, handle);
            }
            answers(x, Links.bytes(22, 5, 0, 5), 1, 22, 5, 9);
            Checks.due("four are kept", 4, x.look(6));
            answers(x, Links.bytes(24, 1), 25);
            Checks.due("none is kept", 0, x.look(6));
        }
        Checks.due("the fourth is written", 4, x.value(4, 0));
        Checks.due("the fifth is not", 0, x.value(5, -1));
    }

    private static void confirms() {
        Face x = Links.with(Links.BOTH, 1, 2, 3);
        for (int k = 0; k < 3; k++) {
            x.tell(1, false);
        }
        x.tell(1, true);
        x.raw(Links.number(30, 1), 2);
        x.run(1);
        Checks.due("30 with more bytes confirms nothing", 1, x.look(8));
        x.run(29);
        Checks.due("and is not answered", 3, x.outcome());
        Checks.due("the client confirmed it", 0, x.look(8));
        Face y = Links.with(Links.BOTH, 1, 2, 3);
        y.tell(1, true);
        y.raw(30, 1);
        y.run(1);
        Checks.due("30 confirms what is still on its way", 0, y.look(8));
        y.run(29);
        Checks.due("and is not answered", 3, y.outcome());
    }

    private static void confirmsNothing() {
        for (int n = 1; n <= 2; n++) {
            Face x = Links.with(Links.BOTH, 1);
            x.raw(n == 1 ? 30 : Links.number(30, 30), n);
            Checks.dueLines("no answer", java.util.List.of(), Links.messages(x, true, 29));
            Checks.due("nothing is indicated", 0, x.look(8));
            Checks.due("it waits", 0, x.outcome());
        }
    }

    /** Up to twenty bytes come in a row; only 18 and 22 may have that many. */
    private static void wrongSizesOfLongMessages() {
        for (int first : new int[] {2, 10, 12, 16, 24, 20}) {
            Forged forged = new Forged();
            int[] message = new int[20];
            message[0] = first;
            message[1] = 1;
            Checks.dueBytes(first + " with twenty bytes", Links.bytes(1, first, 0, first == 20 ? 6 : 4),
                    forged.answerTo(message));
        }
    }

    private static void everyOtherFirstByte() {
        java.util.List<Integer> known = java.util.List.of(2, 10, 12, 16, 18, 22, 24, 30);
        for (int first = 0; first < 256; first++) {
            if (!known.contains(first)) {
                Face x = Links.with(Links.BOTH, 1);
                answers(x, Links.bytes(first, 1), 1, first, 0, 6);
            }
        }
    }

    private static void wrongSizes() {
        Face x = Links.with(Links.BOTH, 1);
        int[][] wrong = {{2}, {2, 8, 8}, {10}, {10, 1, 0}, {12}, {12, 1}, {12, 1, 0, 0}, {16}, {16, 1}, {16, 1, 1, 1},
            {18}, {22}, {22, 1}, {24}, {24, 2}, {24, 255}, {24, 1, 1}, {24, 0, 0}};
        for (int[] message : wrong) {
            answers(x, message, 1, message[0], 0, 4);
        }
        for (int first : new int[] {0, 1, 3, 9, 11, 14, 19, 20, 25, 26, 27, 28, 29, 31, 255}) {
            answers(x, Links.bytes(first), 1, first, 0, 6);
            answers(x, Links.bytes(first, 1, 2), 1, first, 0, 6);
        }
        Checks.due("the limit stays", 8, x.look(5));
        Checks.due("no part is kept", 0, x.look(6));
        Checks.dueBytes("the value stays", Links.bytes(1), Links.value(x, 1));
    }

    private static void errorsChangeNothing() {
        int[][] wrong = {{2}, {2, 9, 9}, {10}, {10, 9}, {10, 2}, {12, 1, 4}, {12, 2, 0}, {12, 1}, {16, 4, 1}, {16, 1, 9},
            {16, 1}, {18}, {18, 3, 1}, {18, 0, 1}, {22, 3, 0, 1}, {22, 9, 0, 1}, {22, 1}, {24}, {24, 2}, {24, 1, 1},
            {7}, {31, 1}, {29, 1, 5}};
        for (int[] message : wrong) {
            Face x = Links.with(Links.BOTH, 1, 2, 3);
            Links.add(x, 1, Links.WRITABLE, 4);
            Links.add(x, 1, Links.READABLE, 5);
            Links.agree(x, 12);
            Links.ask(x, 22, 1, 3, 9);
            Checks.due("an error", 1, Links.ask(x, message)[0]);
            Checks.due("the client's limit", 12, x.look(4));
            Checks.due("the server's limit", 12, x.look(5));
            Checks.due("one part is kept", 1, x.look(6));
            Checks.due("nothing is indicated", 0, x.look(8));
            Checks.dueBytes("the first value", Links.bytes(1, 2, 3), Links.value(x, 1));
            Checks.dueBytes("the second value", Links.bytes(4), Links.value(x, 2));
            Checks.dueBytes("the third value", Links.bytes(5), Links.value(x, 3));
            answers(x, Links.bytes(24, 1), 25);
            Checks.dueBytes("the part is the one that was kept", Links.bytes(1, 2, 3, 9), Links.value(x, 1));
        }
    }

    private static void orderOfErrors() {
        Face x = Links.with(0, 1);
        answers(x, Links.bytes(12, 9, 99), 1, 12, 9, 1);
        answers(x, Links.bytes(12, 1, 99), 1, 12, 1, 2);
        answers(x, Links.bytes(12, 9), 1, 12, 0, 4);
        x.attribute(1, Links.BOTH, 0, 0);
        for (int k = 0; k < 4; k++) {
            Links.ask(x, 22, 2, 0);
        }
        answers(x, Links.bytes(22, 9, 0), 1, 22, 9, 1);
        answers(x, Links.bytes(22, 1, 0), 1, 22, 1, 3);
        answers(x, Links.bytes(22, 2, 0), 1, 22, 2, 9);
        answers(x, Links.bytes(22, 2), 1, 22, 0, 4);
    }
}
