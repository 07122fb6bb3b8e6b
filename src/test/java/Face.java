/** The calls of a link, so that a test can make the same ones on the program and on a model of it. */
interface Face {
    int attribute(int type, int permissions, long value, int n);

    int put(int handle, boolean anew, long value, int n);

    void tell(int handle, boolean indicates);

    void begin(int operation, int argument);

    void write(int handle, long value, int n, boolean all);

    void raw(long bytes, int n);

    int event(int faults, long up, long down);

    int run(int n);

    int outcome();

    int error();

    int data(int k);

    int note(int n, int k);

    int value(int handle, int k);

    int air(boolean server, int k);

    int look(int what);
}
