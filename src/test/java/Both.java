import java.util.ArrayList;
import java.util.List;
import java.util.function.Consumer;
import java.util.function.ToIntFunction;

/** A link and its model: each call is made on both and must answer the same, or be refused in the same way. */
final class Both implements Face {
    private final String name;
    private final Program program;
    private final Model model;
    private final List<String> calls = new ArrayList<>();
    private boolean same = true;

    Both(String name, int hop, int used, int above) {
        this.name = name + ", link (" + hop + ", " + used + ", " + above + ")";
        program = new Program(hop, used, above);
        model = new Model(hop, used, above);
    }

    Model model() {
        return model;
    }

    private int compared(String call, ToIntFunction<Face> made) {
        int answer = 0;
        RuntimeException thrown = null;
        try {
            answer = made.applyAsInt(model);
        } catch (RuntimeException e) {
            thrown = e;
        }
        String want = thrown == null ? Integer.toString(answer) : thrown.getClass().getName();
        compare(call, want, Picture.answer(() -> made.applyAsInt(program)));
        if (thrown != null) {
            throw thrown;
        }
        return answer;
    }

    /** What comes behind the first difference says nothing any more. */
    private void compare(String call, String want, String got) {
        calls.add(call + ": " + got);
        if (same) {
            same = want.equals(got);
            String what = same ? name : name + ", call " + calls.size() + " of " + calls;
            Checks.dueLines(what, List.of(want), List.of(got));
        }
    }

    private void done(String call, Consumer<Face> made) {
        compared(call, x -> {
            made.accept(x);
            return 0;
        });
    }

    void picture() {
        if (same) {
            Checks.dueLines(name + ", in the end", Picture.of(model), Picture.of(program));
        }
    }

    @Override
    public int attribute(int type, int permissions, long value, int n) {
        return compared("attribute " + type + " " + permissions + " " + value + " " + n,
                x -> x.attribute(type, permissions, value, n));
    }

    @Override
    public int put(int handle, boolean anew, long value, int n) {
        return compared("put " + handle + " " + anew + " " + value + " " + n, x -> x.put(handle, anew, value, n));
    }

    @Override
    public void tell(int handle, boolean indicates) {
        done("tell " + handle + " " + indicates, x -> x.tell(handle, indicates));
    }

    @Override
    public void begin(int operation, int argument) {
        done("begin " + operation + " " + argument, x -> x.begin(operation, argument));
    }

    @Override
    public void write(int handle, long value, int n, boolean all) {
        done("write " + handle + " " + value + " " + n + " " + all, x -> x.write(handle, value, n, all));
    }

    @Override
    public void raw(long bytes, int n) {
        done("raw " + bytes + " " + n, x -> x.raw(bytes, n));
    }

    @Override
    public int event(int faults, long up, long down) {
        return compared("event " + faults + " " + up + " " + down, x -> x.event(faults, up, down));
    }

    @Override
    public int run(int n) {
        return compared("run " + n, x -> x.run(n));
    }

    @Override
    public int outcome() {
        return compared("outcome", Face::outcome);
    }

    @Override
    public int error() {
        return compared("error", Face::error);
    }

    @Override
    public int data(int k) {
        return compared("data " + k, x -> x.data(k));
    }

    @Override
    public int note(int n, int k) {
        return compared("note " + n + " " + k, x -> x.note(n, k));
    }

    @Override
    public int value(int handle, int k) {
        return compared("value " + handle + " " + k, x -> x.value(handle, k));
    }

    @Override
    public int air(boolean server, int k) {
        return compared("air " + server + " " + k, x -> x.air(server, k));
    }

    @Override
    public int look(int what) {
        return compared("look " + what, x -> x.look(what));
    }
}
