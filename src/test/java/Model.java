import java.util.ArrayDeque;
import java.util.ArrayList;
import java.util.Arrays;
import java.util.Deque;
import java.util.List;
import java.util.NoSuchElementException;

/** The document's terms once more, in lists and without any thrift, for tests that compare it with the program. */
final class Model implements Face {
    /** A device: what it sends and what it has put together so far. */
    private static final class Side {
        final Deque<List<Integer>> waiting = new ArrayDeque<>();
        int taken = 0;
        int[] hand = null;
        int kind = 0;
        int turn = 0;
        int next = 0;
        int misses = 0;
        int[] air = null;
        List<Integer> begun = null;

        void give(int... message) {
            if (waiting.size() == 8) {
                return;
            }
            List<Integer> row = new ArrayList<>(List.of(message.length, 0, 4, 0));
            for (int b : message) {
                row.add(b);
            }
            waiting.addLast(row);
        }

        void fillHand() {
            if (hand != null) {
                return;
            }
            kind = 1;
            hand = new int[0];
            if (!waiting.isEmpty()) {
                List<Integer> row = waiting.peekFirst();
                kind = taken == 0 ? 2 : 1;
                int end = Math.min(taken + 7, row.size());
                hand = row.subList(taken, end).stream().mapToInt(Integer::intValue).toArray();
                taken = end;
                if (taken == row.size()) {
                    waiting.removeFirst();
                    taken = 0;
                }
            }
        }

        /** The message that is done with this packet, or null. */
        int[] get(int[] packet) {
            if ((packet[0] / 4 % 2) != turn) {
                turn = 1 - turn;
                hand = null;
            }
            if ((packet[0] / 8 % 2) != next) {
                return null;
            }
            next = 1 - next;
            return packet[1] == 0 ? null : take(packet[0] % 4, Arrays.copyOfRange(packet, 2, packet.length - 3));
        }

        private int[] take(int pieceKind, int[] piece) {
            if (pieceKind == 2) {
                begun = new ArrayList<>();
            }
            if (pieceKind == 0 || pieceKind == 3 || begun == null) {
                return null;
            }
            for (int b : piece) {
                begun.add(b);
            }
            int n = begun.get(0);
            boolean hasHead = begun.size() >= 4;
            boolean wrongHead = hasHead && !begun.subList(1, 4).equals(List.of(0, 4, 0));
            if (wrongHead || begun.size() > n + 4 || n > 20) {
                begun = null;
                return null;
            }
            if (begun.size() < n + 4) {
                return null;
            }
            int[] message = begun.subList(4, n + 4).stream().mapToInt(Integer::intValue).toArray();
            begun = null;
            return message;
        }
    }

    private static final class Entry {
        final int type;
        final int permissions;
        int[] value;

        Entry(int type, int permissions, int[] value) {
            this.type = type;
            this.permissions = permissions;
            this.value = value;
        }
    }

    private final int grows;
    private final List<Integer> used = new ArrayList<>();
    private int step = 0;
    private int channel = -1;
    private int events = 0;
    private boolean down = false;
    private final Side client = new Side();
    private final Side server = new Side();

    private final List<Entry> table = new ArrayList<>();
    private final List<int[]> parts = new ArrayList<>();
    private int serverLimit = 8;
    private boolean indicated = false;

    private final List<int[]> notes = new ArrayList<>();
    private int clientLimit = 8;
    private int operation = -1;
    private int subject = 0;
    private int[] text = {};
    private int[] request = {};
    private int waited = 0;
    private boolean undoes = false;
    private int outcome = -1;
    private int error = 0;
    private int[] data = {};

    Model(int hop, int usedBits, int aboveBits) {
        grows = 5 + ((hop % 12) + 12) % 12;
        for (int k = 0; k < 37; k++) {
            if ((k < 32 ? (usedBits >> k) & 1 : (aboveBits >> (k - 32)) & 1) == 1) {
                used.add(k);
            }
        }
        if (used.size() < 2) {
            used.clear();
            for (int k = 0; k < 37; k++) {
                used.add(k);
            }
        }
    }

    private static void argument(boolean holds) {
        if (!holds) {
            throw new IllegalArgumentException();
        }
    }

    private static void state(boolean holds) {
        if (!holds) {
            throw new IllegalStateException();
        }
    }

    private static boolean within(int number, int least, int most) {
        return least <= number && number <= most;
    }

    private static int[] lowest(long number, int n) {
        int[] row = new int[n];
        for (int k = 0; k < n; k++) {
            row[n - 1 - k] = (int) ((number >> (8 * k)) & 255);
        }
        return row;
    }

    private static int[] joined(int[] front, int... back) {
        int[] all = Arrays.copyOf(front, front.length + back.length);
        System.arraycopy(back, 0, all, front.length, back.length);
        return all;
    }

    private static int[] part(int[] row, int from, int most) {
        return from >= row.length ? new int[0] : Arrays.copyOfRange(row, from, Math.min(row.length, from + most));
    }

    private static int limited(int m) {
        return m < 8 ? 8 : m > 20 ? 20 : m;
    }

    private static int byteOf(int[] row, int k) {
        if (!within(k, -1, row.length - 1)) {
            throw new IndexOutOfBoundsException();
        }
        return k == -1 ? row.length : row[k];
    }

    @Override
    public int attribute(int type, int permissions, long value, int n) {
        argument(within(type, 0, 255) && within(permissions, 0, 3) && within(n, 0, 8));
        state(table.size() < 10);
        table.add(new Entry(type, permissions, lowest(value, n)));
        return table.size();
    }

    @Override
    public int put(int handle, boolean anew, long value, int n) {
        argument(within(handle, 1, table.size()) && within(n, 0, 8));
        Entry entry = table.get(handle - 1);
        int[] all = joined(anew ? new int[0] : entry.value, lowest(value, n));
        state(all.length <= 16);
        entry.value = all;
        return all.length;
    }

    @Override
    public void tell(int handle, boolean indicates) {
        argument(within(handle, 1, table.size()));
        state(!down && server.waiting.size() < 4 && !(indicates && indicated));
        int[] value = part(table.get(handle - 1).value, 0, serverLimit - 2);
        server.give(joined(new int[] {indicates ? 29 : 27, handle}, value));
        indicated |= indicates;
    }

    @Override
    public void begin(int newOperation, int argument) {
        argument(within(newOperation, 0, 3) && within(argument, 0, 255));
        int[][] requests = {{2, argument}, {10, argument}, {10, argument}, {16, 1, argument}};
        start(newOperation, argument, new int[0], requests[newOperation]);
    }

    @Override
    public void write(int handle, long value, int n, boolean all) {
        argument(within(handle, 0, 255) && within(n, 0, 8) && (all || n <= clientLimit - 2));
        int[] bytes = lowest(value, n);
        if (all) {
            start(5, handle, bytes, joined(new int[] {22, handle, 0}, part(bytes, 0, clientLimit - 3)));
        } else {
            start(4, handle, bytes, joined(new int[] {18, handle}, bytes));
        }
    }

    @Override
    public void raw(long bytes, int n) {
        argument(within(n, 1, 8));
        start(6, 0, new int[0], lowest(bytes, n));
    }

    private void start(int newOperation, int newSubject, int[] newText, int[] first) {
        state(!down && (outcome == -1 || outcome == 1 || outcome == 2));
        operation = newOperation;
        subject = newSubject;
        text = newText;
        undoes = false;
        outcome = 0;
        error = 0;
        data = new int[0];
        ask(first);
    }

    private void ask(int... bytes) {
        request = bytes;
        waited = 0;
        client.give(bytes);
    }

    @Override
    public int event(int faults, long up, long back) {
        argument(within(faults, 0, 3));
        state(!down);
        step = (step + grows) % 37;
        channel = used.contains(step) ? step : used.get(step % used.size());
        boolean there = passes(client, server, faults % 2 == 1, up);
        boolean here = there && passes(server, client, faults / 2 == 1, back);
        server.misses = there ? 0 : server.misses + 1;
        client.misses = here ? 0 : client.misses + 1;
        events++;
        down = server.misses == 6 || client.misses == 6;
        waited++;
        if (outcome == 0 && down) {
            outcome = 4;
        } else if (outcome == 0 && waited == 30) {
            outcome = 3;
        }
        return (there ? 1 : 0) + (here ? 2 : 0);
    }

    /** Whether what one side sends arrives as a good packet; it is handled then. */
    private boolean passes(Side from, Side to, boolean lost, long spoil) {
        from.fillHand();
        from.air = Radio.whiten(Radio.packet(from.kind, from.next, from.turn, from.hand), channel);
        int[] arrived = from.air.clone();
        for (int k = 0; k < Math.min(8, arrived.length); k++) {
            arrived[k] ^= lowest(spoil, 8)[k];
        }
        int[] packet = Radio.whiten(arrived, channel);
        int[] body = Arrays.copyOf(packet, packet.length - 3);
        if (lost || packet[1] != packet.length - 5 || !Arrays.equals(packet, Radio.checked(body))) {
            return false;
        }
        int[] message = to.get(packet);
        if (message != null && message.length > 0) {
            if (to == server) {
                serve(message);
            } else {
                listen(message);
            }
        }
        return true;
    }

    private void serve(int[] m) {
        if (m[0] == 30) {
            indicated &= m.length > 1;
            return;
        }
        int[] known = {2, 10, 12, 16, 18, 22, 24};
        int[] least = {2, 2, 3, 3, 2, 3, 2};
        int[] most = {2, 2, 3, 3, 20, 20, 2};
        int kind = Arrays.binarySearch(known, m[0]);
        if (kind < 0) {
            server.give(1, m[0], 0, 6);
        } else if (!within(m.length, least[kind], most[kind]) || (m[0] == 24 && m[1] > 1)) {
            server.give(1, m[0], 0, 4);
        } else if (m[0] == 2) {
            server.give(3, 20);
            serverLimit = limited(m[1]);
        } else if (m[0] == 16) {
            serveFind(m[1], m[2]);
        } else if (m[0] == 24) {
            serveEnd(m[1]);
        } else if (!within(m[1], 1, table.size())) {
            server.give(1, m[0], m[1], 1);
        } else if (m[0] == 10 || m[0] == 12) {
            serveRead(m, table.get(m[1] - 1));
        } else {
            serveWrite(m, table.get(m[1] - 1));
        }
    }

    private void serveFind(int from, int type) {
        for (int handle = 1; handle <= table.size(); handle++) {
            if (handle >= from && table.get(handle - 1).type == type) {
                server.give(17, handle);
                return;
            }
        }
        server.give(1, 16, from, 10);
    }

    private void serveRead(int[] m, Entry entry) {
        int place = m[0] == 12 ? m[2] : 0;
        if (entry.permissions % 2 == 0) {
            server.give(1, m[0], m[1], 2);
        } else if (place > entry.value.length) {
            server.give(1, m[0], m[1], 7);
        } else {
            server.give(joined(new int[] {m[0] + 1}, part(entry.value, place, serverLimit - 1)));
        }
    }

    private void serveWrite(int[] m, Entry entry) {
        if (entry.permissions < 2) {
            server.give(1, m[0], m[1], 3);
        } else if (m[0] == 22 && parts.size() == 4) {
            server.give(1, 22, m[1], 9);
        } else if (m[0] == 22) {
            parts.add(m);
            server.give(joined(new int[] {23}, part(m, 1, 20)));
        } else if (m.length > 18) {
            server.give(1, 18, m[1], 13);
        } else {
            entry.value = part(m, 2, 16);
            server.give(19);
        }
    }

    private void serveEnd(int g) {
        int[][] values = table.stream().map(entry -> entry.value).toArray(int[][]::new);
        int code = 0;
        for (int[] m : g == 1 ? parts : new ArrayList<int[]>()) {
            int[] old = values[m[1] - 1];
            int[] bytes = part(m, 3, 20);
            if (m[2] > old.length) {
                code = 7;
                break;
            }
            int end = m[2] + bytes.length;
            if (end > 16) {
                code = 13;
                break;
            }
            values[m[1] - 1] = joined(joined(part(old, 0, m[2]), bytes), part(old, end, 16));
        }
        parts.clear();
        if (code != 0) {
            server.give(1, 24, 0, code);
            return;
        }
        for (int k = 0; k < values.length; k++) {
            table.get(k).value = values[k];
        }
        server.give(25);
    }

    private void listen(int[] m) {
        if (m[0] == 27 || m[0] == 29) {
            if (m.length > 1) {
                notes.add(0, part(m, 1, 20));
                if (m[0] == 29) {
                    client.give(30);
                }
            }
        } else if (m[0] % 2 == 1 && outcome == 0) {
            answered(m);
        }
    }

    private void end(int code) {
        outcome = code == 0 ? 1 : 2;
        error = code;
    }

    private void answered(int[] m) {
        boolean saysError = m[0] == 1 && m.length == 4;
        if (operation == 6) {
            data = m;
            end(0);
        } else if (undoes) {
            end(14);
        } else if (saysError && operation == 3 && m[3] == 10) {
            end(0);
        } else if (saysError) {
            // An error of code 0 is an error, too.
            end(m[3]);
            outcome = 2;
        } else if (m[0] != request[0] + 1) {
            end(14);
        } else {
            goOn(m);
        }
    }

    private void goOn(int[] m) {
        switch (operation) {
            case 0 -> {
                if (m.length >= 2) {
                    clientLimit = limited(Math.min(subject, m[1]));
                }
                end(m.length >= 2 ? 0 : 14);
            }
            case 1 -> {
                data = part(m, 1, 20);
                end(0);
            }
            case 2 -> {
                data = part(joined(data, part(m, 1, 20)), 0, 16);
                if (m.length == clientLimit && data.length < 16) {
                    ask(12, subject, data.length);
                } else {
                    end(0);
                }
            }
            case 3 -> goOnFinding(m);
            case 5 -> goOnWriting(m);
            default -> end(0);
        }
    }

    private void goOnFinding(int[] m) {
        if (m.length < 2) {
            end(14);
            return;
        }
        data = joined(data, m[1]);
        if (data.length == 10) {
            end(0);
        } else {
            ask(16, (m[1] + 1) % 256, subject);
        }
    }

    private void goOnWriting(int[] m) {
        if (request[0] == 24) {
            end(0);
        } else if (!Arrays.equals(part(m, 1, 20), part(request, 1, 20))) {
            undoes = true;
            ask(24, 0);
        } else {
            int place = request[2] + request.length - 3;
            if (place < text.length) {
                ask(joined(new int[] {22, subject, place}, part(text, place, clientLimit - 3)));
            } else {
                ask(24, 1);
            }
        }
    }

    @Override
    public int run(int n) {
        argument(within(n, 1, 40));
        int before = events;
        for (int k = 0; k < n && !down; k++) {
            event(0, 0, 0);
        }
        return events - before;
    }

    @Override
    public int outcome() {
        if (outcome == -1) {
            throw new NoSuchElementException();
        }
        return outcome;
    }

    @Override
    public int error() {
        return error;
    }

    @Override
    public int data(int k) {
        return byteOf(data, k);
    }

    @Override
    public int note(int n, int k) {
        if (!within(n, 0, Math.min(4, notes.size()) - 1)) {
            throw new NoSuchElementException();
        }
        return byteOf(notes.get(n), k);
    }

    @Override
    public int value(int handle, int k) {
        argument(within(handle, 1, table.size()));
        return byteOf(table.get(handle - 1).value, k);
    }

    @Override
    public int air(boolean ofServer, int k) {
        int[] latest = ofServer ? server.air : client.air;
        if (latest == null) {
            throw new NoSuchElementException();
        }
        return byteOf(latest, k);
    }

    @Override
    public int look(int what) {
        int[] answers = {channel, events, client.misses, server.misses, clientLimit, serverLimit, parts.size(),
            down ? 1 : 0, indicated ? 1 : 0};
        return within(what, 0, 8) ? answers[what] : -1;
    }

    /** How many bytes the piece in hand of a side has, or the one that it would take now. */
    int pieceBytes(boolean ofServer) {
        Side side = ofServer ? server : client;
        if (side.hand != null) {
            return side.hand.length;
        }
        return side.waiting.isEmpty() ? 0 : Math.min(7, side.waiting.peekFirst().size() - side.taken);
    }
}
