/** Promise 7: raw. */
public final class RawTest {
    public static void main(String[] args) {
        sendsAsItIs();
        everyNumberOfBytes();
        takesAnyAnswer();
        takesAnswersOfAnyLength();
        wrongInputs();
        Checks.end();
    }

    private static void sendsAsItIs() {
        Face x = Links.with(Links.BOTH, 1);
        x.raw(0x99120102L, 3);
        Checks.due("it goes on", 0, x.outcome());
        x.run(1);
        Checks.dueBytes("the bytes", Radio.packet(2, 0, 0, 3, 0, 4, 0, 18, 1, 2), Links.packet(x, false));
        x.run(3);
        Checks.dueBytes("written", Links.bytes(2), Links.value(x, 1));
        Checks.dueBytes("the answer", Links.bytes(19), Links.data(x));
        Checks.dueBytes("eight bytes", Links.bytes(23, 1, 1, 2, 3, 4, 5, 6), Links.ask(x, 22, 1, 1, 2, 3, 4, 5, 6));
        Checks.dueBytes("a negative number", Links.bytes(1, 255, 0, 6), Links.ask(x, 255, 255, 255, 255, 255, 255, 255, 255));
    }

    private static void everyNumberOfBytes() {
        int[] all = {0x91, 0x92, 0x93, 0x94, 0x95, 0x96, 0x97, 0x98};
        for (int n = 1; n <= 8; n++) {
            Face x = Links.fresh();
            x.raw(Links.number(all), n);
            String due = java.util.Arrays.toString(java.util.Arrays.copyOfRange(all, 8 - n, 8));
            Checks.dueLines("the lowest " + n, java.util.List.of(due), Links.messages(x, false, 3));
        }
    }

    private static void takesAnswersOfAnyLength() {
        for (int n = 1; n <= 20; n++) {
            int[] answer = new int[n];
            java.util.Arrays.fill(answer, n);
            answer[0] = 1;
            Forged forged = new Forged();
            forged.getsInstead(() -> forged.x.raw(Links.number(10, 1), 2), answer);
            Checks.dueBytes("an answer of " + n + " bytes", answer, Links.data(forged.x));
            Checks.due("done", 1, forged.x.outcome());
            Checks.due("no error", 0, forged.x.error());
            Checks.dueOutOfBounds("no byte behind it", () -> forged.x.data(answer.length));
        }
    }

    private static void takesAnyAnswer() {
        Face x = Links.with(0, 1);
        Checks.dueBytes("an error is data", Links.bytes(1, 10, 1, 2), Links.ask(x, 10, 1));
        Checks.due("done", 1, x.outcome());
        Checks.due("no error", 0, x.error());
        Checks.dueBytes("the limit's answer", Links.bytes(3, 20), Links.ask(x, 2, 15));
        Checks.due("the client's limit stays", 8, x.look(4));
        Checks.due("the server's does not", 15, x.look(5));
        Forged forged = new Forged();
        forged.getsInstead(() -> forged.x.raw(Links.number(10, 1), 2), 5, 6, 7);
        Checks.dueBytes("an answer of another kind", Links.bytes(5, 6, 7), Links.data(forged.x));
        Checks.due("done", 1, forged.x.outcome());
    }

    private static void wrongInputs() {
        Face x = Links.with(Links.BOTH, 1);
        for (int n : new int[] {-1, 0, 9, Integer.MIN_VALUE, Integer.MAX_VALUE}) {
            Checks.dueIllegalArgument("n " + n, () -> x.raw(1, n));
        }
        Checks.dueNoSuchElement("none was begun", x::outcome);
        x.raw(30, 1);
        Checks.dueIllegalState("it goes on", () -> x.raw(30, 1));
        Checks.dueIllegalArgument("n is looked at first", () -> x.raw(30, 0));
        x.run(30);
        Checks.dueIllegalState("timed out", () -> x.raw(30, 1));
        Face y = Links.broken();
        Checks.dueIllegalState("the link is down", () -> y.raw(30, 1));
        Checks.dueIllegalArgument("n is looked at first", () -> y.raw(30, 9));
    }
}
