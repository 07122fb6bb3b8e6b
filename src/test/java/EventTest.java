/** Promise 8: event, with the misses and the link that goes down. */
public final class EventTest {
    public static void main(String[] args) {
        answers();
        spoils();
        sendsAgain();
        emptyOneInHand();
        goesDown();
        onlyOneSideMisses();
        fiveMissesAreForgotten();
        downFromTheEndOfTheSixth();
        hostGoesOnWhenItIsDown();
        wrongInputs();
        Checks.end();
    }

    private static void answers() {
        Face x = Links.fresh();
        Checks.due("both", 3, x.event(0, 0, 0));
        Checks.due("the server's is lost", 1, x.event(2, 0, 0));
        Checks.due("the client's is lost", 0, x.event(1, 0, 0));
        Checks.due("both are lost", 0, x.event(3, 0, 0));
        Checks.due("both", 3, x.event(0, 0, 0));
    }

    private static void spoils() {
        Face x = Links.fresh();
        for (int bit = 0; bit < 64; bit++) {
            long spoil = 1L << bit;
            // An empty packet has five bytes: the three lowest of the number have nothing to be joined with.
            boolean hits = bit >= 24;
            Checks.due("up, bit " + bit, hits ? 0 : 3, x.event(0, spoil, 0));
            x.event(0, 0, 0);
            Checks.due("down, bit " + bit, hits ? 1 : 3, x.event(0, 0, spoil));
            x.event(0, 0, 0);
        }
        Face y = Links.with(Links.BOTH, 1);
        y.begin(1, 1);
        Checks.due("the eighth byte", 0, y.event(0, 1, 0));
        Checks.due("eight bytes of eleven are all spoilt", 0, y.event(0, -1, 0));
    }

    private static void sendsAgain() {
        Face x = Links.with(Links.BOTH, 1);
        x.raw(Links.number(22, 1, 0), 3);
        x.event(Links.LOST_UP, 0, 0);
        Checks.due("the server has not got it", 0, x.look(6));
        int[] first = Links.packet(x, false);
        x.event(Links.LOST_DOWN, 0, 0);
        Checks.dueBytes("the same packet", first, Links.packet(x, false));
        Checks.due("the server has got it", 1, x.look(6));
        int[] answer = Links.packet(x, true);
        x.event(0, 0, 0);
        Checks.dueBytes("the same packet", first, Links.packet(x, false));
        Checks.dueBytes("the same answer", answer, Links.packet(x, true));
        Checks.due("it was there already", 1, x.look(6));
        Checks.due("done", 1, x.outcome());
        x.event(Links.LOST_UP, 0, 0);
        Checks.dueBytes("an empty one with the other turn", Radio.packet(1, 1, 1), Links.packet(x, false));
        x.event(0, 0, 0);
        Checks.dueBytes("the server's other turn", Radio.packet(1, 0, 1), Links.packet(x, true));
    }

    private static void emptyOneInHand() {
        Face x = Links.with(Links.BOTH, 1);
        x.event(Links.LOST_UP, 0, 0);
        x.begin(1, 1);
        x.event(0, 0, 0);
        Checks.dueBytes("the empty one is sent first", Radio.packet(1, 0, 0), Links.packet(x, false));
        x.event(0, 0, 0);
        Checks.dueBytes("then the request", Radio.packet(2, 1, 1, 2, 0, 4, 0, 10, 1), Links.packet(x, false));
        Face y = Links.with(Links.BOTH, 1);
        y.event(Links.LOST_DOWN, 0, 0);
        y.tell(1, false);
        y.event(0, 0, 0);
        Checks.dueBytes("the server's empty one, too", Radio.packet(1, 1, 0), Links.packet(y, true));
        y.event(0, 0, 0);
        Checks.dueBytes("then the row", Radio.packet(2, 0, 1, 3, 0, 4, 0, 27, 1, 1), Links.packet(y, true));
    }

    private static void goesDown() {
        Face x = Links.with(Links.BOTH, 1);
        for (int k = 1; k <= 5; k++) {
            x.event(Links.LOST_UP, 0, 0);
            Checks.due("the server's misses", k, x.look(3));
            Checks.due("the client's misses", k, x.look(2));
        }
        x.event(0, 0, 0);
        Checks.due("none any more", 0, x.look(2) + x.look(3));
        for (int k = 0; k < 5; k++) {
            x.event(0, -1, 0);
        }
        Checks.due("not yet", 0, x.look(7));
        x.event(3, 0, 0);
        Checks.due("six", 1, x.look(7));
        Checks.dueIllegalState("down", () -> x.event(0, 0, 0));
        Checks.dueIllegalState("for good", () -> x.event(0, 0, 0));
        Checks.due("no event any more", 12, x.look(1));
    }

    private static void onlyOneSideMisses() {
        Face x = Links.fresh();
        for (int k = 0; k < 6; k++) {
            Checks.due("it is still up", 0, x.look(7));
            Checks.due("the server gets them", 1, x.event(k % 2 == 0 ? Links.LOST_DOWN : 0, 0, k % 2 == 0 ? 0 : -1));
        }
        Checks.due("the client's misses", 6, x.look(2));
        Checks.due("the server's misses", 0, x.look(3));
        Checks.due("down", 1, x.look(7));
    }

    private static void fiveMissesAreForgotten() {
        Face x = Links.fresh();
        for (int round = 0; round < 3; round++) {
            for (int k = 1; k <= 5; k++) {
                x.event(Links.LOST_DOWN, 0, 0);
                Checks.due("the client's misses", k, x.look(2));
                Checks.due("the server's misses", 0, x.look(3));
            }
            Checks.due("one that is good", 3, x.event(0, 0, 0));
            Checks.due("none any more", 0, x.look(2));
        }
        Face y = Links.fresh();
        for (int k = 0; k < 5; k++) {
            y.event(Links.LOST_UP, 0, 0);
        }
        Checks.due("the server gets one, the client none", 1, y.event(Links.LOST_DOWN, 0, 0));
        Checks.due("the server's misses", 0, y.look(3));
        Checks.due("the client has six", 6, y.look(2));
        Checks.due("down", 1, y.look(7));
    }

    /** In the sixth event itself the server still works on what it gets. */
    private static void downFromTheEndOfTheSixth() {
        Face x = Links.with(Links.BOTH, 1);
        x.write(1, 9, 1, false);
        for (int k = 0; k < 5; k++) {
            x.event(Links.LOST_UP, 0, 0);
        }
        Checks.due("five are too few", 0, x.look(7));
        Checks.due("it goes on", 0, x.outcome());
        Checks.due("the server gets it", 1, x.event(Links.LOST_DOWN, 0, 0));
        Checks.dueBytes("it is written", Links.bytes(9), Links.value(x, 1));
        Checks.dueBytes("the server has answered", Links.bytes(1, 0, 4, 0, 19), Links.piece(x, true));
        Checks.due("six", 1, x.look(7));
        Checks.due("cut off", 4, x.outcome());
        Checks.due("the event counts", 6, x.look(1));
    }

    private static void hostGoesOnWhenItIsDown() {
        Face x = Links.broken();
        Checks.due("another attribute", 2, x.attribute(1, 3, 5, 1));
        Checks.due("its value", 5, x.value(2, 0));
        Checks.due("put", 2, x.put(2, false, 6, 1));
        Checks.due("down for good", 1, x.look(7));
        Checks.due("the client's packet is known", 5, x.air(false, -1));
    }

    private static void wrongInputs() {
        Face x = Links.fresh();
        for (int faults : new int[] {-1, 4, Integer.MIN_VALUE, Integer.MAX_VALUE}) {
            Checks.dueIllegalArgument("faults " + faults, () -> x.event(faults, 0, 0));
        }
        Checks.due("there was none", 0, x.look(1));
        Face y = Links.broken();
        Checks.dueIllegalArgument("faults are looked at first", () -> y.event(4, 0, 0));
    }
}
