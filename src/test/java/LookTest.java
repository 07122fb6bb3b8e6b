/** Promise 16: look. */
public final class LookTest {
    public static void main(String[] args) {
        anotherWhat();
        each();
        Checks.end();
    }

    private static void anotherWhat() {
        for (Face x : new Face[] {Links.fresh(), Links.broken()}) {
            for (int what : new int[] {-1, -2, 9, 10, 16, 256, Integer.MIN_VALUE, Integer.MAX_VALUE}) {
                Checks.due("what " + what, -1, x.look(what));
            }
        }
    }

    private static void each() {
        Face x = Links.with(Links.BOTH, 1);
        Checks.due("no channel yet", -1, x.look(0));
        Checks.due("no event yet", 0, x.look(1));
        x.event(Links.LOST_UP, 0, 0);
        Checks.due("the channel of a lost event", 5, x.look(0));
        Checks.due("one event", 1, x.look(1));
        x.event(Links.LOST_DOWN, 0, 0);
        Checks.due("the next channel", 10, x.look(0));
        Checks.due("the client's misses", 2, x.look(2));
        Checks.due("the server's misses", 0, x.look(3));
        x.run(1);
        Links.agree(x, 13);
        Checks.due("the client's limit", 13, x.look(4));
        Checks.due("the server's limit", 13, x.look(5));
        Links.ask(x, 2, 17);
        Checks.due("the client's limit", 13, x.look(4));
        Checks.due("the server's limit", 17, x.look(5));
        for (int k = 1; k <= 4; k++) {
            Links.ask(x, 22, 1, 0);
            Checks.due("parts", k, x.look(6));
        }
        Links.ask(x, 24, 1);
        Checks.due("no parts", 0, x.look(6));
        x.tell(1, true);
        Checks.due("not confirmed", 1, x.look(8));
        Links.breakDown(x);
        Checks.due("down", 1, x.look(7));
        Checks.due("never confirmed", 1, x.look(8));
    }
}
