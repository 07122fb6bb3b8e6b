/** Promise 2: attribute. */
public final class AttributeTest {
    public static void main(String[] args) {
        handlesInOrder();
        bytesOfTheValue();
        everyNumberOfBytes();
        edgesOfTypeAndPermissions();
        wrongInputs();
        typesAndPermissions();
        Checks.end();
    }

    private static void handlesInOrder() {
        Face x = Links.fresh();
        for (int k = 1; k <= 10; k++) {
            Checks.due("handle", k, x.attribute(0, 0, 0, 0));
        }
        Checks.dueIllegalState("the eleventh", () -> x.attribute(0, 0, 0, 0));
        Checks.dueIllegalArgument("a wrong eleventh", () -> x.attribute(256, 0, 0, 0));
        Checks.dueIllegalArgument("there is no handle 11", () -> x.value(11, -1));
    }

    private static void bytesOfTheValue() {
        Face x = Links.fresh();
        x.attribute(0, 0, 0x1122334455667788L, 8);
        x.attribute(0, 0, 0x1122334455667788L, 3);
        x.attribute(0, 0, 0x1122334455667788L, 0);
        x.attribute(0, 0, -2L, 2);
        Checks.dueBytes("all eight", Links.bytes(0x11, 0x22, 0x33, 0x44, 0x55, 0x66, 0x77, 0x88), Links.value(x, 1));
        Checks.dueBytes("the lowest three", Links.bytes(0x66, 0x77, 0x88), Links.value(x, 2));
        Checks.dueBytes("none", Links.bytes(), Links.value(x, 3));
        Checks.dueBytes("a negative number", Links.bytes(0xFF, 0xFE), Links.value(x, 4));
    }

    private static void everyNumberOfBytes() {
        int[] all = {0x91, 0x92, 0x93, 0x94, 0x95, 0x96, 0x97, 0x98};
        for (int n = 0; n <= 8; n++) {
            Face x = Links.fresh();
            x.attribute(0, 0, Links.number(all), n);
            Checks.dueBytes("the lowest " + n, java.util.Arrays.copyOfRange(all, 8 - n, 8), Links.value(x, 1));
        }
    }

    private static void edgesOfTypeAndPermissions() {
        for (int type : new int[] {0, 1, 254, 255}) {
            Face x = Links.fresh();
            Checks.due("type " + type, 1, x.attribute(type, 0, 0, 0));
            Checks.dueBytes("found by it", Links.bytes(17, 1), Links.ask(x, 16, 1, type));
            Checks.dueBytes("not by another", Links.bytes(1, 16, 1, 10), Links.ask(x, 16, 1, 255 - type));
        }
        for (int permissions = 0; permissions <= 3; permissions++) {
            Checks.due("permissions " + permissions, 1, Links.fresh().attribute(0, permissions, 0, 0));
        }
    }

    private static void wrongInputs() {
        Face x = Links.fresh();
        for (int type : new int[] {-1, 256, Integer.MIN_VALUE, Integer.MAX_VALUE}) {
            Checks.dueIllegalArgument("type " + type, () -> x.attribute(type, 0, 0, 0));
        }
        for (int permissions : new int[] {-1, 4, Integer.MIN_VALUE, Integer.MAX_VALUE}) {
            Checks.dueIllegalArgument("permissions " + permissions, () -> x.attribute(0, permissions, 0, 0));
        }
        for (int n : new int[] {-1, 9, Integer.MIN_VALUE, Integer.MAX_VALUE}) {
            Checks.dueIllegalArgument("n " + n, () -> x.attribute(0, 0, 0, n));
        }
        Checks.due("none of these was made", 1, x.attribute(255, 3, 0, 8));
    }

    private static void typesAndPermissions() {
        Face x = Links.fresh();
        for (int permissions = 0; permissions <= 3; permissions++) {
            int handle = x.attribute(255 * (permissions & 1), permissions, 7, 1);
            boolean reads = (permissions & 1) != 0;
            boolean writes = (permissions & 2) != 0;
            Checks.dueBytes("read with " + permissions,
                    reads ? Links.bytes(11, 7) : Links.bytes(1, 10, handle, 2), Links.ask(x, 10, handle));
            Checks.dueBytes("write with " + permissions,
                    writes ? Links.bytes(19) : Links.bytes(1, 18, handle, 3), Links.ask(x, 18, handle, 7));
        }
        Checks.dueBytes("type 255", Links.bytes(17, 2), Links.ask(x, 16, 0, 255));
        Checks.dueBytes("type 0", Links.bytes(17, 3), Links.ask(x, 16, 2, 0));
    }
}
