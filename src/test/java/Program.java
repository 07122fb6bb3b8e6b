/** The program itself; nothing is promised about an object after its 512th call, so that a test may not make more. */
final class Program implements Face {
    static final int MOST_CALLS = 512;
    private final AttributeLink link;
    private int calls;

    Program(int hop, int used, int above) {
        link = new AttributeLink(hop, used, above);
        calls = 0;
    }

    private AttributeLink counted() {
        calls++;
        if (calls > MOST_CALLS) {
            throw new AssertionError("this test makes more calls than an object is promised for");
        }
        return link;
    }

    @Override
    public int attribute(int type, int permissions, long value, int n) {
        return counted().attribute(type, permissions, value, n);
    }

    @Override
    public int put(int handle, boolean anew, long value, int n) {
        return counted().put(handle, anew, value, n);
    }

    @Override
    public void tell(int handle, boolean indicates) {
        counted().tell(handle, indicates);
    }

    @Override
    public void begin(int operation, int argument) {
        counted().begin(operation, argument);
    }

    @Override
    public void write(int handle, long value, int n, boolean all) {
        counted().write(handle, value, n, all);
    }

    @Override
    public void raw(long bytes, int n) {
        counted().raw(bytes, n);
    }

    @Override
    public int event(int faults, long up, long down) {
        return counted().event(faults, up, down);
    }

    @Override
    public int run(int n) {
        return counted().run(n);
    }

    @Override
    public int outcome() {
        return counted().outcome();
    }

    @Override
    public int error() {
        return counted().error();
    }

    @Override
    public int data(int k) {
        return counted().data(k);
    }

    @Override
    public int note(int n, int k) {
        return counted().note(n, k);
    }

    @Override
    public int value(int handle, int k) {
        return counted().value(handle, k);
    }

    @Override
    public int air(boolean server, int k) {
        return counted().air(server, k);
    }

    @Override
    public int look(int what) {
        return counted().look(what);
    }
}
