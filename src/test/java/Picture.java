import java.util.ArrayList;
import java.util.List;
import java.util.function.IntUnaryOperator;

/** All that the calls which change nothing answer about a link. */
final class Picture {
    private final List<String> lines = new ArrayList<>();

    private Picture() {
    }

    static List<String> of(Face x) {
        Picture picture = new Picture();
        for (int what = 0; what <= 8; what++) {
            int asked = what;
            picture.line("look " + what, () -> x.look(asked));
        }
        picture.line("outcome", x::outcome);
        picture.line("error", x::error);
        picture.row("data", x::data);
        for (int n = 0; n < 4; n++) {
            int asked = n;
            picture.row("note " + n, k -> x.note(asked, k));
        }
        for (int handle = 1; handle <= 10; handle++) {
            int asked = handle;
            picture.row("value " + handle, k -> x.value(asked, k));
        }
        picture.row("the client's air", k -> x.air(false, k));
        picture.row("the server's air", k -> x.air(true, k));
        return picture.lines;
    }

    /** What a call answers, or the name of what it throws. */
    static String answer(java.util.function.IntSupplier call) {
        try {
            return Integer.toString(call.getAsInt());
        } catch (RuntimeException e) {
            return e.getClass().getName();
        }
    }

    private void line(String what, java.util.function.IntSupplier call) {
        lines.add(what + ": " + answer(call));
    }

    private void row(String what, IntUnaryOperator call) {
        String length = answer(() -> call.applyAsInt(-1));
        StringBuilder text = new StringBuilder(what + ": " + length + ":");
        if (Character.isDigit(length.charAt(0))) {
            for (int k = 0; k < Integer.parseInt(length); k++) {
                int asked = k;
                text.append(' ').append(answer(() -> call.applyAsInt(asked)));
            }
        }
        lines.add(text.toString());
    }
}
