/** What a device makes of a good packet that was not sent like this (promises 8 and 15). */
public final class PacketsTest {
    public static void main(String[] args) {
        highBitsDoNotCount();
        lengthMustFit();
        lengthOfALongPacketMustFit();
        onlyEightBytesAreSpoilt();
        spoiltAcknowledgement();
        spoiltTurn();
        Checks.end();
    }

    private static void highBitsDoNotCount() {
        Face x = Links.fresh();
        for (int bit = 16; bit <= 128; bit *= 2) {
            Checks.due("good", 3, x.event(0, Radio.spoil(bit), Radio.spoil(bit)));
        }
        Checks.dueBytes("the turns went on", Radio.packet(1, 1, 1), Links.packet(x, false));
    }

    private static void lengthMustFit() {
        Face x = Links.fresh();
        int[] empty = Radio.packet(1, 0, 0);
        for (int length : new int[] {1, 7, 8, 255}) {
            int[] other = Radio.checked(empty[0], length);
            int[] difference = new int[8];
            for (int k = 0; k < 5; k++) {
                difference[k] = empty[k] ^ other[k];
            }
            Checks.due("length " + length, 0, x.event(0, Links.number(difference), 0));
        }
        Face y = Links.fresh();
        int[] answer = Radio.packet(1, 1, 0);
        for (int length : new int[] {1, 7, 8, 255}) {
            int[] other = Radio.checked(answer[0], length);
            int[] difference = new int[8];
            for (int k = 0; k < 5; k++) {
                difference[k] = answer[k] ^ other[k];
            }
            Checks.due("the server's, length " + length, 1, y.event(0, 0, Links.number(difference)));
        }
    }

    /** The check is right, but the length is not that of the piece. */
    private static void lengthOfALongPacketMustFit() {
        for (int length = 0; length < 256; length += length < 16 ? 1 : 48) {
            Face x = Links.with(Links.BOTH, 1);
            x.begin(1, 1);
            Checks.due("six bytes said to be " + length, length == 6 ? 3 : 0,
                    x.event(0, Radio.silentSpoil(0, 6 ^ length), 0));
            Face y = Links.with(Links.BOTH, 1);
            y.tell(1, false);
            Checks.due("seven bytes said to be " + length, length == 7 ? 3 : 1,
                    y.event(0, 0, Radio.silentSpoil(0, 7 ^ length)));
        }
    }

    /** Eight bytes whose differences take each other away in the check, so that the three behind them are right. */
    private static void onlyEightBytesAreSpoilt() {
        long spoil = Radio.silentSpoil(16);
        Face x = Links.with(Links.BOTH, 1);
        x.begin(1, 1);
        Checks.due("the client's packet is good", 3, x.event(0, spoil, 0));
        Checks.dueBytes("but of another row", Links.bytes(), Links.piece(x, true));
        Face y = Links.with(Links.BOTH, 1);
        y.tell(1, false);
        Checks.due("the server's packet is good", 3, y.event(0, 0, spoil));
        Checks.dueNoSuchElement("but of another row", () -> y.note(0, -1));
    }

    private static void spoiltAcknowledgement() {
        Face x = Links.with(Links.BOTH, 1);
        x.run(1);
        x.tell(1, false);
        x.event(Links.LOST_DOWN, 0, 0);
        Checks.dueBytes("the row is on its way", Links.bytes(3, 0, 4, 0, 27, 1, 1), Links.piece(x, true));
        x.event(0, Radio.spoil(Radio.FLIP_NEXT), 0);
        Checks.dueBytes("the server believes that it has come", Links.bytes(), Links.piece(x, true));
        x.run(5);
        Checks.dueNoSuchElement("it never came", () -> x.note(0, -1));
    }

    private static void spoiltTurn() {
        Face x = Links.with(Links.BOTH, 1, 2, 3, 4);
        x.raw(Links.number(18, 1, 9, 8), 4);
        x.run(1);
        Checks.due("good, but there already", 3, x.event(0, Radio.spoil(Radio.FLIP_TURN, 0), 0));
        Checks.dueBytes("not taken", Links.bytes(1, 2, 3, 4), Links.value(x, 1));
        Checks.dueBytes("not acknowledged", Links.bytes(8), Links.piece(x, false));
        x.run(1);
        Checks.dueBytes("sent again", Links.bytes(8), Links.piece(x, false));
        Checks.dueBytes("taken", Links.bytes(9, 8), Links.value(x, 1));
    }
}
