import java.util.NoSuchElementException;

/**
 * Two devices, a client and a server, on one radio link. The numbered promises of the project's
 * document say what each call does; the terms in the comments are that document's.
 */
public final class AttributeLink {
    private static final int PIECE_BYTES = 7;
    private static final int CHECK_BYTES = 3;
    private static final int PACKET_BYTES = 2 + PIECE_BYTES + CHECK_BYTES;
    private static final int HEAD_BYTES = 4;
    private static final int MESSAGE_BYTES = 20;
    private static final int VALUE_BYTES = 16;
    private static final int NUMBER_BYTES = 8;

    private static final int LEAST_LIMIT = 8;
    private static final int MOST_LIMIT = 20;
    private static final int MOST_TOLD_ROWS = 4;
    private static final int MOST_MISSES = 6;
    private static final int MOST_EVENTS = 40;

    private static final int KIND_ON = 1;
    private static final int KIND_FIRST = 2;

    private static final int SAYS_ERROR = 1;
    private static final int ASKS_LIMIT = 2;
    private static final int ASKS_READ = 10;
    private static final int ASKS_READ_FROM = 12;
    private static final int ASKS_FIND = 16;
    private static final int ASKS_WRITE = 18;
    private static final int ASKS_PART = 22;
    private static final int ASKS_END = 24;
    private static final int SAYS_TOLD = 27;
    private static final int SAYS_INDICATED = 29;
    private static final int SAYS_CONFIRMED = 30;

    private static final int NO_HANDLE = 1;
    private static final int NOT_READABLE = 2;
    private static final int NOT_WRITABLE = 3;
    private static final int WRONG_SIZE = 4;
    private static final int UNKNOWN_REQUEST = 6;
    private static final int WRONG_PLACE = 7;
    private static final int TOO_MANY_PARTS = 9;
    private static final int NOT_FOUND = 10;
    private static final int TOO_LONG = 13;
    private static final int WRONG_ANSWER = 14;

    private static final int LIMIT = 0;
    private static final int READ = 1;
    private static final int READ_ALL = 2;
    private static final int FIND = 3;
    private static final int WRITE = 4;
    private static final int WRITE_ALL = 5;
    private static final int RAW = 6;

    private static final int NEVER_BEGUN = -1;
    private static final int GOES_ON = 0;
    private static final int DONE = 1;
    private static final int FAILED = 2;
    private static final int TIMED_OUT = 3;
    private static final int CUT_OFF = 4;

    private final Channels channels;
    private final Whitening whitening;
    private final Device clientSide;
    private final Device serverSide;
    private final Client client;
    private final Server server;
    private int events;
    private int channel;
    private boolean down;

    public AttributeLink(int hop, int used, int above) {
        channels = new Channels(hop, used, above);
        whitening = new Whitening();
        clientSide = new Device();
        serverSide = new Device();
        client = new Client();
        server = new Server();
        events = 0;
        channel = -1;
        down = false;
    }

    public int attribute(int type, int permissions, long value, int n)
            throws IllegalArgumentException, IllegalStateException {
        if (!isByte(type) || permissions < 0 || permissions > 3 || !isNumberSize(n)) {
            throw new IllegalArgumentException();
        }
        if (server.isFull()) {
            throw new IllegalStateException();
        }
        return server.addAttribute(type, permissions, value, n);
    }

    public int put(int handle, boolean anew, long value, int n)
            throws IllegalArgumentException, IllegalStateException {
        if (!server.hasHandle(handle) || !isNumberSize(n)) {
            throw new IllegalArgumentException();
        }
        Row row = server.valueOf(handle);
        if (!anew && row.length() + n > VALUE_BYTES) {
            throw new IllegalStateException();
        }
        if (anew) {
            row.clear();
        }
        row.addNumber(value, n);
        return row.length();
    }

    public void tell(int handle, boolean indicates) throws IllegalArgumentException, IllegalStateException {
        if (!server.hasHandle(handle)) {
            throw new IllegalArgumentException();
        }
        if (down || serverSide.outbox.waiting() >= MOST_TOLD_ROWS) {
            throw new IllegalStateException();
        }
        if (indicates && server.isUnconfirmed()) {
            throw new IllegalStateException();
        }
        server.sayByItself(handle, indicates, serverSide.outbox);
    }

    public void begin(int operation, int argument) throws IllegalArgumentException, IllegalStateException {
        if (operation < LIMIT || operation > FIND || !isByte(argument)) {
            throw new IllegalArgumentException();
        }
        requireIdleClient();
        client.start(operation, argument, 0L, 0, clientSide.outbox);
    }

    public void write(int handle, long value, int n, boolean all)
            throws IllegalArgumentException, IllegalStateException {
        if (!isByte(handle) || !isNumberSize(n) || (!all && n > client.limit() - 2)) {
            throw new IllegalArgumentException();
        }
        requireIdleClient();
        client.start(all ? WRITE_ALL : WRITE, handle, value, n, clientSide.outbox);
    }

    public void raw(long bytes, int n) throws IllegalArgumentException, IllegalStateException {
        if (n == 0 || !isNumberSize(n)) {
            throw new IllegalArgumentException();
        }
        requireIdleClient();
        client.start(RAW, 0, bytes, n, clientSide.outbox);
    }

    public int event(int faults, long up, long down) throws IllegalArgumentException, IllegalStateException {
        if (faults < 0 || faults > 3) {
            throw new IllegalArgumentException();
        }
        if (this.down) {
            throw new IllegalStateException();
        }
        return exchange(faults, up, down);
    }

    public int run(int n) throws IllegalArgumentException {
        if (n < 1 || n > MOST_EVENTS) {
            throw new IllegalArgumentException();
        }
        int ended = 0;
        while (ended < n && !down) {
            exchange(0, 0L, 0L);
            ended++;
        }
        return ended;
    }

    public int outcome() throws NoSuchElementException {
        if (client.state() == NEVER_BEGUN) {
            throw new NoSuchElementException();
        }
        return client.state();
    }

    public int error() {
        return client.failure();
    }

    public int data(int k) throws IndexOutOfBoundsException {
        return byteOrLength(client.found, k);
    }

    public int note(int n, int k) throws NoSuchElementException, IndexOutOfBoundsException {
        if (!client.notes.has(n)) {
            throw new NoSuchElementException();
        }
        return byteOrLength(client.notes.latest(n), k);
    }

    public int value(int handle, int k) throws IllegalArgumentException, IndexOutOfBoundsException {
        if (!server.hasHandle(handle)) {
            throw new IllegalArgumentException();
        }
        return byteOrLength(server.valueOf(handle), k);
    }

    public int air(boolean server, int k) throws NoSuchElementException, IndexOutOfBoundsException {
        Row sent = server ? serverSide.sent : clientSide.sent;
        if (sent.length() == 0) {
            throw new NoSuchElementException();
        }
        return byteOrLength(sent, k);
    }

    public int look(int what) {
        switch (what) {
            case 0:
                return channel;
            case 1:
                return events;
            case 2:
                return clientSide.misses();
            case 3:
                return serverSide.misses();
            case 4:
                return client.limit();
            case 5:
                return server.limit();
            case 6:
                return server.keptParts();
            case 7:
                return down ? 1 : 0;
            case 8:
                return server.isUnconfirmed() ? 1 : 0;
            default:
                return -1;
        }
    }

    private static boolean isByte(int number) {
        return number >= 0 && number <= 255;
    }

    private static boolean isNumberSize(int n) {
        return n >= 0 && n <= NUMBER_BYTES;
    }

    private static int boundedLimit(int wanted) {
        return Math.max(LEAST_LIMIT, Math.min(MOST_LIMIT, wanted));
    }

    private static int byteOrLength(Row row, int k) {
        if (k == -1) {
            return row.length();
        }
        if (!row.has(k)) {
            throw new IndexOutOfBoundsException();
        }
        return row.at(k);
    }

    private void requireIdleClient() {
        if (down || !client.mayStart()) {
            throw new IllegalStateException();
        }
    }

    private int exchange(int faults, long up, long back) {
        channel = channels.advance();
        whitening.tune(channel);
        clientSide.send(whitening);
        boolean serverGot = (faults & 1) == 0 && serverSide.hear(clientSide.sent, up, whitening);
        boolean clientGot = false;
        if (serverGot) {
            // Handled in front of sending: an answer may leave in the same event.
            if (serverSide.inbox.isDone()) {
                server.serve(serverSide.inbox.message, serverSide.outbox);
            }
            serverSide.send(whitening);
            clientGot = (faults & 2) == 0 && clientSide.hear(serverSide.sent, back, whitening);
        }
        if (clientGot && clientSide.inbox.isDone()) {
            client.listen(clientSide.inbox.message, clientSide.outbox);
        }
        finish(serverGot, clientGot);
        return (serverGot ? 1 : 0) + (clientGot ? 2 : 0);
    }

    private void finish(boolean serverGot, boolean clientGot) {
        events++;
        serverSide.countMiss(serverGot);
        clientSide.countMiss(clientGot);
        down = serverSide.misses() >= MOST_MISSES || clientSide.misses() >= MOST_MISSES;
        client.endEvent(down);
    }

    /** Bytes one behind the other, in a room that is made once and used again. */
    private static final class Row {
        private final int[] bytes;
        private int length;

        Row(int room) {
            bytes = new int[room];
            length = 0;
        }

        int length() {
            return length;
        }

        boolean has(int k) {
            return k >= 0 && k < length;
        }

        int at(int k) {
            return k >= 0 && k < length ? bytes[k] : 0;
        }

        void clear() {
            length = 0;
        }

        void cut(int most) {
            if (most >= 0 && length > most) {
                length = most;
            }
        }

        void add(int number) {
            if (length < bytes.length) {
                bytes[length] = number & 255;
                length++;
            }
        }

        void addFrom(Row other, int from, int most) {
            int n = Math.min(Math.min(most, other.length - from), bytes.length - length);
            if (from >= 0 && n > 0) {
                System.arraycopy(other.bytes, from, bytes, length, n);
                length += n;
            }
        }

        void addNumber(long number, int n) {
            for (int k = n - 1; k >= 0; k--) {
                add((int) (number >>> (8 * k)));
            }
        }

        /** Puts the bytes of other from a place on over these from another on; this gets longer, if need be. */
        void overlay(int place, Row other, int from) {
            int n = other.length - from;
            if (place >= 0 && place <= length && from >= 0 && n > 0 && place + n <= bytes.length) {
                System.arraycopy(other.bytes, from, bytes, place, n);
                length = Math.max(length, place + n);
            }
        }

        boolean isSameFrom(int from, Row other) {
            if (length != other.length) {
                return false;
            }
            for (int k = from; k < length; k++) {
                if (at(k) != other.at(k)) {
                    return false;
                }
            }
            return true;
        }
    }

    /** The channels of the events. */
    private static final class Channels {
        private static final int COUNT = 37;
        private final int hop;
        private final int[] usedOnes;
        private final boolean[] isUsed;
        private int usedCount;
        private int step;

        Channels(int hop, int used, int above) {
            this.hop = 5 + Math.floorMod(hop, 12);
            usedOnes = new int[COUNT];
            isUsed = new boolean[COUNT];
            boolean all = countUsed(used, above) < 2;
            usedCount = 0;
            for (int k = 0; k < COUNT; k++) {
                if (all || isMarked(k, used, above)) {
                    isUsed[k] = true;
                    usedOnes[usedCount] = k;
                    usedCount++;
                }
            }
            step = 0;
        }

        private static boolean isMarked(int k, int used, int above) {
            int bits = k < 32 ? used >>> k : above >>> (k - 32);
            return (bits & 1) == 1;
        }

        private static int countUsed(int used, int above) {
            return Integer.bitCount(used) + Integer.bitCount(above & 31);
        }

        int advance() {
            step = (step + hop) % COUNT;
            return isUsed[step] ? step : usedOnes[step % usedCount];
        }
    }

    /** What each byte of a packet is joined with on the air of one channel. */
    private static final class Whitening {
        private final int[] masks;

        Whitening() {
            masks = new int[PACKET_BYTES];
        }

        void tune(int channel) {
            int register = 64 + channel;
            for (int k = 0; k < masks.length; k++) {
                int mask = 0;
                for (int bit = 0; bit < 8; bit++) {
                    boolean goesOut = (register & 64) != 0;
                    register = (register << 1) & 127;
                    if (goesOut) {
                        mask |= 1 << bit;
                        register ^= 0x11;
                    }
                }
                masks[k] = mask;
            }
        }

        int turnOver(int k, int number) {
            return k >= 0 && k < masks.length ? number ^ masks[k] : number;
        }
    }

    /** One end of the radio link: what it holds to be sent, what it sent, and what it puts together. */
    private static final class Device {
        final Outbox outbox;
        final Inbox inbox;
        /** The latest packet as it was on the air; without bytes while none was sent. */
        final Row sent;
        private final Row packet;
        private final Row hand;
        private int handKind;
        private boolean holdsPiece;
        private int turn;
        private int next;
        private int misses;

        Device() {
            outbox = new Outbox();
            inbox = new Inbox();
            sent = new Row(PACKET_BYTES);
            packet = new Row(PACKET_BYTES);
            hand = new Row(PIECE_BYTES);
            handKind = KIND_ON;
            holdsPiece = false;
            turn = 0;
            next = 0;
            misses = 0;
        }

        int misses() {
            return misses;
        }

        void countMiss(boolean gotGoodOne) {
            misses = gotGoodOne ? 0 : misses + 1;
        }

        void send(Whitening whitening) {
            if (!holdsPiece) {
                handKind = outbox.takePiece(hand);
                holdsPiece = true;
            }
            packet.clear();
            packet.add(handKind + 4 * next + 8 * turn);
            packet.add(hand.length());
            packet.addFrom(hand, 0, PIECE_BYTES);
            packet.addNumber(checkOf(packet, packet.length()), CHECK_BYTES);
            sent.clear();
            for (int k = 0; k < packet.length(); k++) {
                sent.add(whitening.turnOver(k, packet.at(k)));
            }
        }

        /** Whether what arrives is good; then it is worked on, too. */
        boolean hear(Row onAir, long spoil, Whitening whitening) {
            inbox.forgetDone();
            packet.clear();
            for (int k = 0; k < onAir.length(); k++) {
                packet.add(whitening.turnOver(k, onAir.at(k) ^ spoilAt(spoil, k)));
            }
            if (!isGood()) {
                return false;
            }
            accept();
            return true;
        }

        private static int spoilAt(long spoil, int k) {
            return k < NUMBER_BYTES ? (int) (spoil >>> (56 - 8 * k)) & 255 : 0;
        }

        private boolean isGood() {
            int checked = packet.length() - CHECK_BYTES;
            if (packet.at(1) > PIECE_BYTES || packet.at(1) != checked - 2) {
                return false;
            }
            int check = (packet.at(checked) << 16) | (packet.at(checked + 1) << 8) | packet.at(checked + 2);
            return check == checkOf(packet, checked);
        }

        private void accept() {
            int first = packet.at(0);
            if (((first >> 2) & 1) != turn) {
                turn = 1 - turn;
                holdsPiece = false;
            }
            if (((first >> 3) & 1) == next) {
                next = 1 - next;
                if (packet.at(1) > 0) {
                    inbox.take(first & 3, packet);
                }
            }
        }

        private static int checkOf(Row row, int n) {
            int register = 0x555555;
            for (int k = 0; k < n; k++) {
                int number = row.at(k);
                for (int bit = 0; bit < 8; bit++) {
                    int goesOut = (register >> 23) & 1;
                    register = (register << 1) & 0xFFFFFF;
                    if (goesOut != ((number >> bit) & 1)) {
                        register ^= 0x65B;
                    }
                }
            }
            return register;
        }
    }

    /** The rows that wait to be sent. */
    private static final class Outbox {
        private static final int MOST_WAITING = 8;
        private final Row[] rows;
        private int oldest;
        private int waiting;
        /** How many bytes of the oldest row were taken. */
        private int taken;

        Outbox() {
            rows = new Row[MOST_WAITING];
            for (int k = 0; k < MOST_WAITING; k++) {
                rows[k] = new Row(HEAD_BYTES + MESSAGE_BYTES);
            }
            oldest = 0;
            waiting = 0;
            taken = 0;
        }

        int waiting() {
            return waiting;
        }

        void give(Row message) {
            if (waiting >= MOST_WAITING) {
                return;
            }
            Row row = rows[(oldest + waiting) % MOST_WAITING];
            row.clear();
            row.add(message.length());
            row.add(0);
            row.add(4);
            row.add(0);
            row.addFrom(message, 0, MESSAGE_BYTES);
            waiting++;
        }

        /** Puts the next piece into the hand, an empty one when no row waits: its kind. */
        int takePiece(Row hand) {
            hand.clear();
            if (waiting == 0) {
                return KIND_ON;
            }
            Row row = rows[oldest];
            int kind = taken == 0 ? KIND_FIRST : KIND_ON;
            hand.addFrom(row, taken, PIECE_BYTES);
            taken += hand.length();
            if (taken >= row.length()) {
                oldest = (oldest + 1) % MOST_WAITING;
                waiting--;
                taken = 0;
            }
            return kind;
        }
    }

    /** Puts pieces together. */
    private static final class Inbox {
        /** The bytes to be handled, as long as isDone says so. */
        final Row message;
        private final Row row;
        private boolean begun;
        private boolean done;

        Inbox() {
            message = new Row(MESSAGE_BYTES);
            // A row that is not done is shorter than the longest one, and a whole piece may come behind it.
            row = new Row(HEAD_BYTES + MESSAGE_BYTES + PIECE_BYTES);
            begun = false;
            done = false;
        }

        boolean isDone() {
            return done;
        }

        void forgetDone() {
            done = false;
        }

        void take(int kind, Row packet) {
            if (kind == KIND_FIRST) {
                row.clear();
                begun = true;
            } else if (kind != KIND_ON || !begun) {
                return;
            }
            row.addFrom(packet, 2, packet.at(1));
            int n = row.at(0);
            if (!isSound(n)) {
                begun = false;
            } else if (row.length() == n + HEAD_BYTES) {
                begun = false;
                done = true;
                message.clear();
                message.addFrom(row, HEAD_BYTES, n);
            }
        }

        private boolean isSound(int n) {
            if (n > MESSAGE_BYTES || row.length() > n + HEAD_BYTES) {
                return false;
            }
            return row.length() < HEAD_BYTES || (row.at(1) == 0 && row.at(2) == 4 && row.at(3) == 0);
        }
    }

    /** One attribute of the server. */
    private static final class Attribute {
        private static final int MAY_BE_READ = 1;
        private static final int MAY_BE_WRITTEN = 2;
        final Row bytes;
        private int type;
        private int permissions;

        Attribute() {
            bytes = new Row(VALUE_BYTES);
            type = 0;
            permissions = 0;
        }

        void become(int newType, int newPermissions) {
            type = newType;
            permissions = newPermissions;
        }

        boolean isOfType(int wanted) {
            return type == wanted;
        }

        boolean isReadable() {
            return (permissions & MAY_BE_READ) != 0;
        }

        boolean isWritable() {
            return (permissions & MAY_BE_WRITTEN) != 0;
        }
    }

    /** The server's attributes and what it answers. */
    private static final class Server {
        private static final int MOST_ATTRIBUTES = 10;
        private static final int MOST_PARTS = 4;
        private final Attribute[] attributes;
        private int count;
        /** Each part as it came: handle, place, bytes. */
        private final Row[] parts;
        private int partCount;
        private final int[] plannedLengths;
        private final Row answer;
        private int limit;
        private boolean unconfirmed;

        Server() {
            attributes = new Attribute[MOST_ATTRIBUTES];
            for (int k = 0; k < MOST_ATTRIBUTES; k++) {
                attributes[k] = new Attribute();
            }
            count = 0;
            parts = new Row[MOST_PARTS];
            for (int k = 0; k < MOST_PARTS; k++) {
                parts[k] = new Row(MESSAGE_BYTES);
            }
            partCount = 0;
            plannedLengths = new int[MOST_ATTRIBUTES];
            answer = new Row(MESSAGE_BYTES);
            limit = LEAST_LIMIT;
            unconfirmed = false;
        }

        boolean isFull() {
            return count >= MOST_ATTRIBUTES;
        }

        boolean hasHandle(int handle) {
            return handle >= 1 && handle <= count;
        }

        boolean isUnconfirmed() {
            return unconfirmed;
        }

        int limit() {
            return limit;
        }

        int keptParts() {
            return partCount;
        }

        /** Only for a handle that hasHandle knows. */
        Row valueOf(int handle) {
            return attributes[handle - 1].bytes;
        }

        /** Only while isFull says no. */
        int addAttribute(int type, int permissions, long number, int n) {
            attributes[count].become(type, permissions);
            attributes[count].bytes.addNumber(number, n);
            count++;
            return count;
        }

        void sayByItself(int handle, boolean indicates, Outbox out) {
            answer.clear();
            answer.add(indicates ? SAYS_INDICATED : SAYS_TOLD);
            answer.add(handle);
            answer.addFrom(valueOf(handle), 0, limit - 2);
            out.give(answer);
            if (indicates) {
                unconfirmed = true;
            }
        }

        void serve(Row message, Outbox out) {
            if (message.length() == 0) {
                return;
            }
            int request = message.at(0);
            if (request == SAYS_CONFIRMED) {
                unconfirmed = unconfirmed && message.length() > 1;
                return;
            }
            answer.clear();
            int code = shapeError(message);
            boolean namesHandle = code == 0 && request != ASKS_LIMIT && request != ASKS_END;
            if (code == 0) {
                code = answerTo(message);
            }
            if (code != 0) {
                answerError(request, namesHandle ? message.at(1) : 0, code);
            }
            out.give(answer);
        }

        private void answerError(int request, int handle, int code) {
            answer.clear();
            answer.add(SAYS_ERROR);
            answer.add(request);
            answer.add(handle);
            answer.add(code);
        }

        private static int shapeError(Row message) {
            int n = message.length();
            boolean fits;
            switch (message.at(0)) {
                case ASKS_LIMIT:
                case ASKS_READ:
                    fits = n == 2;
                    break;
                case ASKS_READ_FROM:
                case ASKS_FIND:
                    fits = n == 3;
                    break;
                case ASKS_WRITE:
                    fits = n >= 2;
                    break;
                case ASKS_PART:
                    fits = n >= 3;
                    break;
                case ASKS_END:
                    fits = n == 2 && message.at(1) <= 1;
                    break;
                default:
                    return UNKNOWN_REQUEST;
            }
            return fits ? 0 : WRONG_SIZE;
        }

        /** Makes the answer to a request of the right shape, or says the code of the error. */
        private int answerTo(Row message) {
            switch (message.at(0)) {
                case ASKS_LIMIT:
                    answer.add(ASKS_LIMIT + 1);
                    answer.add(MOST_LIMIT);
                    limit = boundedLimit(message.at(1));
                    return 0;
                case ASKS_FIND:
                    return answerFind(message.at(1), message.at(2));
                case ASKS_END:
                    return answerEnd(message.at(1) == 1);
                default:
                    return answerAccess(message);
            }
        }

        private int answerFind(int from, int type) {
            for (int handle = Math.max(from, 1); handle <= count; handle++) {
                if (attributes[handle - 1].isOfType(type)) {
                    answer.add(ASKS_FIND + 1);
                    answer.add(handle);
                    return 0;
                }
            }
            return NOT_FOUND;
        }

        private int answerAccess(Row message) {
            int request = message.at(0);
            int handle = message.at(1);
            if (!hasHandle(handle)) {
                return NO_HANDLE;
            }
            Attribute attribute = attributes[handle - 1];
            if (request == ASKS_READ || request == ASKS_READ_FROM) {
                // A plain read has no place: at(2) is 0 then.
                return attribute.isReadable() ? answerRead(request, attribute.bytes, message.at(2)) : NOT_READABLE;
            }
            if (!attribute.isWritable()) {
                return NOT_WRITABLE;
            }
            return request == ASKS_WRITE ? answerWrite(attribute.bytes, message) : answerPart(message);
        }

        private int answerRead(int request, Row bytes, int place) {
            if (place > bytes.length()) {
                return WRONG_PLACE;
            }
            answer.add(request + 1);
            answer.addFrom(bytes, place, limit - 1);
            return 0;
        }

        private int answerWrite(Row bytes, Row message) {
            if (message.length() - 2 > VALUE_BYTES) {
                return TOO_LONG;
            }
            bytes.clear();
            bytes.addFrom(message, 2, VALUE_BYTES);
            answer.add(ASKS_WRITE + 1);
            return 0;
        }

        private int answerPart(Row message) {
            if (partCount >= MOST_PARTS) {
                return TOO_MANY_PARTS;
            }
            parts[partCount].clear();
            parts[partCount].addFrom(message, 1, MESSAGE_BYTES);
            partCount++;
            answer.add(ASKS_PART + 1);
            answer.addFrom(message, 1, MESSAGE_BYTES);
            return 0;
        }

        private int answerEnd(boolean writes) {
            int code = writes ? planParts() : 0;
            if (writes && code == 0) {
                for (int k = 0; k < partCount; k++) {
                    valueOf(parts[k].at(0)).overlay(parts[k].at(1), parts[k], 2);
                }
            }
            partCount = 0;
            answer.add(ASKS_END + 1);
            return code;
        }

        /** The error that the parts would run into, looked for before any is written. */
        private int planParts() {
            for (int k = 0; k < count; k++) {
                plannedLengths[k] = attributes[k].bytes.length();
            }
            for (int k = 0; k < partCount; k++) {
                int slot = parts[k].at(0) - 1;
                int place = parts[k].at(1);
                int end = place + parts[k].length() - 2;
                if (place > plannedLengths[slot]) {
                    return WRONG_PLACE;
                }
                if (end > VALUE_BYTES) {
                    return TOO_LONG;
                }
                plannedLengths[slot] = Math.max(plannedLengths[slot], end);
            }
            return 0;
        }
    }

    /** The latest notes of the client. */
    private static final class Notes {
        private static final int MOST_NOTES = 4;
        private final Row[] rows;
        private int count;
        private int newest;

        Notes() {
            rows = new Row[MOST_NOTES];
            for (int k = 0; k < MOST_NOTES; k++) {
                rows[k] = new Row(MESSAGE_BYTES);
            }
            count = 0;
            newest = 0;
        }

        boolean has(int n) {
            return n >= 0 && n < count;
        }

        Row latest(int n) {
            return rows[Math.floorMod(newest - n, MOST_NOTES)];
        }

        void keep(Row message) {
            newest = (newest + 1) % MOST_NOTES;
            rows[newest].clear();
            rows[newest].addFrom(message, 1, MESSAGE_BYTES);
            count = Math.min(MOST_NOTES, count + 1);
        }
    }

    /** The client's operations and what it handles. */
    private static final class Client {
        private static final int MOST_WAITED = 30;
        private static final int MOST_FOUND = 10;
        final Notes notes;
        /** The data of the latest operation. */
        final Row found;
        private final Row request;
        private final Row confirmation;
        private final Row text;
        private int limit;
        private int operation;
        /** The operation's handle, type or limit. */
        private int subject;
        private int state;
        private int failure;
        private int waited;
        private int place;
        private boolean takesBack;

        Client() {
            notes = new Notes();
            found = new Row(MESSAGE_BYTES);
            request = new Row(MESSAGE_BYTES);
            confirmation = new Row(1);
            confirmation.add(SAYS_CONFIRMED);
            text = new Row(NUMBER_BYTES);
            limit = LEAST_LIMIT;
            operation = LIMIT;
            subject = 0;
            state = NEVER_BEGUN;
            failure = 0;
            waited = 0;
            place = 0;
            takesBack = false;
        }

        int limit() {
            return limit;
        }

        int state() {
            return state;
        }

        int failure() {
            return failure;
        }

        boolean mayStart() {
            return state == NEVER_BEGUN || state == DONE || state == FAILED;
        }

        void start(int newOperation, int newSubject, long number, int n, Outbox out) {
            operation = newOperation;
            subject = newSubject;
            state = GOES_ON;
            failure = 0;
            place = 0;
            takesBack = false;
            found.clear();
            text.clear();
            text.addNumber(number, n);
            composeFirst();
            ask(out);
        }

        void endEvent(boolean down) {
            if (state != GOES_ON) {
                return;
            }
            waited++;
            if (down) {
                state = CUT_OFF;
            } else if (waited >= MOST_WAITED) {
                state = TIMED_OUT;
            }
        }

        void listen(Row message, Outbox out) {
            int first = message.at(0);
            if (first == SAYS_TOLD || first == SAYS_INDICATED) {
                keepNote(message, out);
            } else if ((first & 1) == 1 && state == GOES_ON && !endsWith(message)) {
                goOn(message);
                if (state == GOES_ON) {
                    ask(out);
                }
            }
        }

        private void keepNote(Row message, Outbox out) {
            if (message.length() < 2) {
                return;
            }
            notes.keep(message);
            if (message.at(0) == SAYS_INDICATED) {
                out.give(confirmation);
            }
        }

        private void ask(Outbox out) {
            out.give(request);
            waited = 0;
        }

        private void compose(int first, int second) {
            request.clear();
            request.add(first);
            request.add(second);
        }

        private void composeFirst() {
            switch (operation) {
                case LIMIT:
                    compose(ASKS_LIMIT, subject);
                    break;
                case FIND:
                    composeFind(1);
                    break;
                case WRITE:
                    compose(ASKS_WRITE, subject);
                    request.addFrom(text, 0, NUMBER_BYTES);
                    break;
                case WRITE_ALL:
                    composePart();
                    break;
                case RAW:
                    request.clear();
                    request.addFrom(text, 0, NUMBER_BYTES);
                    break;
                default:
                    compose(ASKS_READ, subject);
                    break;
            }
        }

        private void composeFind(int from) {
            request.clear();
            request.add(ASKS_FIND);
            request.add(from);
            request.add(subject);
        }

        private void composePart() {
            request.clear();
            request.add(ASKS_PART);
            request.add(subject);
            request.add(place);
            request.addFrom(text, place, limit - 3);
        }

        private void succeed() {
            state = DONE;
        }

        private void fail(int code) {
            state = FAILED;
            failure = code;
        }

        /** Whether the operation ends with this answer whatever it would ask for next. */
        private boolean endsWith(Row message) {
            if (operation == RAW) {
                found.addFrom(message, 0, MESSAGE_BYTES);
                succeed();
            } else if (takesBack) {
                fail(WRONG_ANSWER);
            } else if (message.at(0) == SAYS_ERROR && message.length() == 4) {
                takeError(message.at(3));
            } else if (message.at(0) != request.at(0) + 1 || message.length() < neededBytes()) {
                fail(WRONG_ANSWER);
            }
            return state != GOES_ON;
        }

        private void takeError(int code) {
            if (operation == FIND && code == NOT_FOUND) {
                succeed();
            } else {
                fail(code);
            }
        }

        private int neededBytes() {
            return operation == LIMIT || operation == FIND ? 2 : 1;
        }

        /** Takes what the answer says, and either ends the operation or makes its next request. */
        private void goOn(Row message) {
            switch (operation) {
                case LIMIT:
                    limit = boundedLimit(Math.min(subject, message.at(1)));
                    succeed();
                    break;
                case READ:
                    found.addFrom(message, 1, MESSAGE_BYTES);
                    succeed();
                    break;
                case READ_ALL:
                    goOnReading(message);
                    break;
                case FIND:
                    goOnFinding(message.at(1));
                    break;
                case WRITE_ALL:
                    goOnWriting(message);
                    break;
                default:
                    succeed();
                    break;
            }
        }

        private void goOnReading(Row message) {
            found.addFrom(message, 1, MESSAGE_BYTES);
            found.cut(VALUE_BYTES);
            if (message.length() == limit && found.length() < VALUE_BYTES) {
                compose(ASKS_READ_FROM, subject);
                request.add(found.length());
            } else {
                succeed();
            }
        }

        private void goOnFinding(int handle) {
            found.add(handle);
            if (found.length() < MOST_FOUND) {
                composeFind((handle + 1) & 255);
            } else {
                succeed();
            }
        }

        private void goOnWriting(Row message) {
            if (request.at(0) == ASKS_END) {
                succeed();
                return;
            }
            takesBack = !message.isSameFrom(1, request);
            place += limit - 3;
            if (takesBack) {
                compose(ASKS_END, 0);
            } else if (place < text.length()) {
                composePart();
            } else {
                compose(ASKS_END, 1);
            }
        }
    }
}
