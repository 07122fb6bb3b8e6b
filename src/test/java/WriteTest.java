/** Promise 6: write, and the terms WRITE and WRITE ALL. */
public final class WriteTest {
    public static void main(String[] args) {
        writes();
        writesAll();
        writesAllWithErrors();
        mostBytesOfWrite();
        everyNumberOfBytes();
        wrongInputs();
        Checks.end();
    }

    private static void writes() {
        Face x = Links.with(Links.BOTH, 1, 2, 3);
        x.write(1, 0x99AABBCCDDEEL, 6, false);
        Checks.due("it goes on", 0, x.outcome());
        x.run(1);
        Checks.dueBytes("18 h v", Radio.packet(2, 0, 0, 8, 0, 4, 0, 18, 1, 0x99), Links.packet(x, false));
        x.run(3);
        Checks.due("done", 1, x.outcome());
        Checks.dueBytes("the value", Links.bytes(0x99, 0xAA, 0xBB, 0xCC, 0xDD, 0xEE), Links.value(x, 1));
        Checks.due("no data", 0, x.data(-1));
        x.write(1, 5, 0, false);
        x.run(4);
        Checks.dueBytes("an empty value", Links.bytes(), Links.value(x, 1));
        x.write(255, 5, 1, false);
        x.run(4);
        Checks.due("no such handle", 1, x.error());
        x.write(0, 5, 1, false);
        x.run(4);
        Checks.due("no handle 0", 1, x.error());
        Links.agree(x, 10);
        x.write(1, 0x0102030405060708L, 8, false);
        x.run(5);
        Checks.due("eight with limit 10", 8, x.value(1, -1));
    }

    private static void writesAll() {
        Face x = Links.with(Links.WRITABLE, 9, 9, 9, 9, 9, 9, 9, 9, 77, 78);
        x.write(1, 0x0102030405060708L, 8, true);
        x.run(1);
        Checks.dueBytes("a part of five", Links.bytes(8, 0, 4, 0, 22, 1, 0), Links.piece(x, false));
        x.run(2);
        Checks.due("it is kept", 1, x.look(6));
        Checks.due("nothing is written yet", 9, x.value(1, 0));
        x.run(1);
        Checks.dueBytes("a part of three", Links.bytes(6, 0, 4, 0, 22, 1, 5), Links.piece(x, false));
        x.run(20);
        Checks.due("done", 1, x.outcome());
        Checks.due("the parts are gone", 0, x.look(6));
        Checks.dueBytes("over the value", Links.bytes(1, 2, 3, 4, 5, 6, 7, 8, 77, 78), Links.value(x, 1));
        x.write(1, 0x0102030405L, 5, true);
        x.run(4);
        Checks.dueBytes("five are one part", Links.bytes(2, 0, 4, 0, 24, 1), Links.piece(x, false));
        x.write(1, 0, 0, true);
        x.run(1);
        Checks.dueBytes("an empty part", Links.bytes(3, 0, 4, 0, 22, 1, 0), Links.piece(x, false));
        x.run(9);
        Checks.due("done", 1, x.outcome());
        Checks.due("nothing changed", 10, x.value(1, -1));
        Links.agree(x, 20);
        x.write(1, 0x1112131415161718L, 8, true);
        x.run(6);
        Checks.due("one part is enough with limit 20", 1, x.outcome());
        Checks.due("written", 0x11, x.value(1, 0));
    }

    private static void writesAllWithErrors() {
        Face x = Links.with(Links.READABLE, 1);
        x.attribute(1, 3, 0, 0);
        x.write(1, 1, 1, true);
        x.run(5);
        Checks.due("it may not be written", 3, x.error());
        for (int k = 0; k < 4; k++) {
            Links.ask(x, 22, 2, 0, k);
        }
        x.write(2, 1, 1, true);
        x.run(10);
        Checks.due("four parts are kept", 9, x.error());
        Checks.due("they stay", 4, x.look(6));
        Links.ask(x, 24, 0);
        Links.ask(x, 22, 2, 1, 6);
        x.write(2, 1, 1, true);
        x.run(10);
        Checks.due("the older part has a wrong place", 7, x.error());
        Checks.due("nothing is written", 0, x.value(2, -1));
    }

    /** At most the client's limit - 2; WRITE ALL takes eight in any case. */
    private static void mostBytesOfWrite() {
        for (int limit : new int[] {8, 9, 10, 11, 20}) {
            for (int n = 5; n <= 8; n++) {
                Face x = Links.with(Links.BOTH, 1);
                Links.agree(x, limit);
                int more = n;
                if (n > limit - 2) {
                    Checks.dueIllegalArgument(n + " with limit " + limit, () -> x.write(1, 0, more, false));
                    Checks.due("LIMIT is still the latest one", 1, x.outcome());
                    x.write(1, 0, n, true);
                } else {
                    x.write(1, 0, n, false);
                }
                x.run(20);
                Checks.due("done", 1, x.outcome());
                Checks.due(n + " with limit " + limit, n, x.value(1, -1));
            }
        }
    }

    private static void everyNumberOfBytes() {
        int[] all = {0x91, 0x92, 0x93, 0x94, 0x95, 0x96, 0x97, 0x98};
        for (int n = 0; n <= 8; n++) {
            int[] due = java.util.Arrays.copyOfRange(all, 8 - n, 8);
            for (boolean whole : new boolean[] {false, true}) {
                Face x = Links.with(Links.BOTH);
                Links.agree(x, 20);
                x.write(1, Links.number(all), n, whole);
                x.run(20);
                Checks.dueBytes("the lowest " + n, due, Links.value(x, 1));
            }
        }
        for (int handle : new int[] {0, 255}) {
            Face x = Links.with(Links.BOTH, 1);
            x.write(handle, 0, 1, true);
            x.run(5);
            Checks.due("handle " + handle + " may be asked for", 1, x.error());
        }
    }

    private static void wrongInputs() {
        Face x = Links.with(Links.BOTH, 1);
        for (boolean all : new boolean[] {false, true}) {
            for (int handle : new int[] {-1, 256, Integer.MIN_VALUE, Integer.MAX_VALUE}) {
                Checks.dueIllegalArgument("handle " + handle, () -> x.write(handle, 0, 0, all));
            }
            for (int n : new int[] {-1, 9, Integer.MIN_VALUE, Integer.MAX_VALUE}) {
                Checks.dueIllegalArgument("n " + n, () -> x.write(1, 0, n, all));
            }
        }
        Checks.dueIllegalArgument("seven with limit 8", () -> x.write(1, 0, 7, false));
        Checks.dueIllegalArgument("eight with limit 8", () -> x.write(1, 0, 8, false));
        Links.ask(x, 2, 20);
        Checks.dueIllegalArgument("the server's limit does not count", () -> x.write(1, 0, 7, false));
        Links.agree(x, 9);
        x.write(1, 0, 7, false);
        Checks.dueIllegalState("it goes on", () -> x.write(1, 0, 1, true));
        Checks.dueIllegalArgument("n is looked at first", () -> x.write(1, 0, 8, false));
        x.run(5);
        Checks.due("seven with limit 9", 7, x.value(1, -1));
        x.raw(30, 1);
        x.run(30);
        Checks.dueIllegalState("timed out", () -> x.write(1, 0, 1, false));
        Face y = Links.broken();
        Checks.dueIllegalState("the link is down", () -> y.write(1, 0, 1, false));
        Checks.dueIllegalState("the link is down", () -> y.write(1, 0, 8, true));
        Checks.dueIllegalArgument("the handle is looked at first", () -> y.write(256, 0, 1, true));
    }
}
