import java.util.Arrays;

/** A log shared by many objects: see README.md for how to use it. */
public final class SharedLog {
    private static final int POSITIONS = 120;
    private static final int STREAMS = 4;
    private static final int ALL_STREAMS = 15;
    private static final int REPLICAS = 3;
    private static final int TOKENS = 150;
    private static final int POINTERS = 4;
    private static final int GREATEST_AMOUNT = 1000;

    private static final int NONE = -1;
    private static final int LOST = -1;
    private static final int JUNK = -1;
    private static final int EMPTY = -2;
    // An entry that read no stream has no condition.
    private static final int NOTHING_READ = 0;

    private final Entry[] entries = new Entry[TOKENS];
    private final Cells cells = new Cells();
    private final Trail sequencerKnows = new Trail();
    private final Fold fold = new Fold();
    private int handedOut = 0;
    private int epoch = 0;
    private int tail = 0;
    private boolean sequencerLost = false;

    public SharedLog() {
    }

    // ---- the sequencer

    public int take(int streams, int amount) throws IllegalArgumentException, IllegalStateException {
        if (!isSetOfStreams(streams) || !isAmount(amount)) {
            throw new IllegalArgumentException("streams or amount is out of range");
        }
        return handOut(streams, amount, NOTHING_READ, 0);
    }

    public int takeIf(int streams, int amount, int read, int version)
            throws IllegalArgumentException, IllegalStateException {
        if (!isSetOfStreams(streams) || !isAmount(amount) || !isSetOfStreams(read)) {
            throw new IllegalArgumentException("streams, amount or read is out of range");
        }
        if (!sequencerLost && (version < 0 || version > tail)) {
            throw new IllegalArgumentException("version is out of range");
        }
        return handOut(streams, amount, read, version);
    }

    public int lose() throws IllegalStateException {
        if (sequencerLost) {
            throw new IllegalStateException("the sequencer is lost");
        }
        sequencerLost = true;
        return tail;
    }

    public int seal() {
        epoch++;
        tail = cells.end();
        sequencerLost = false;
        sequencerKnows.clear();
        for (int position = 0; position < tail; position++) {
            Entry entry = entryIn(position);
            if (entry != null) {
                sequencerKnows.push(entry.streams, position);
            }
        }
        return tail;
    }

    // ---- cells

    public int write(int token) throws IndexOutOfBoundsException, IllegalStateException {
        Entry entry = entryOf(token);
        if (entry == null) {
            throw new IndexOutOfBoundsException("no such token");
        }
        if (entry.steps == LOST || entry.steps == REPLICAS || entry.epoch != epoch) {
            throw new IllegalStateException("the token cannot write");
        }
        if (cells.get(entry.steps, entry.position) == JUNK) {
            entry.steps = LOST;
        } else {
            cells.put(entry.steps, entry.position, token);
            entry.steps++;
        }
        return entry.steps;
    }

    public boolean fill(int position) throws IndexOutOfBoundsException, IllegalStateException {
        if (!isPosition(position)) {
            throw new IndexOutOfBoundsException("no such position");
        }
        if (sequencerLost || position >= tail || cells.isComplete(position)) {
            throw new IllegalStateException("the position cannot be filled");
        }
        boolean hasEntry = entryIn(position) != null;
        int content = hasEntry ? cells.get(0, position) : JUNK;
        for (int replica = 0; replica < REPLICAS; replica++) {
            cells.put(replica, position, content);
        }
        return hasEntry;
    }

    // ---- what there is; nothing from here on changes anything

    public int epoch() {
        return epoch;
    }

    public int tail() {
        return sequencerLost ? LOST : tail;
    }

    public int tokens() {
        return handedOut;
    }

    public int positionOf(int token) throws IndexOutOfBoundsException {
        Entry entry = entryOf(token);
        if (entry == null) {
            throw new IndexOutOfBoundsException("no such token");
        }
        return entry.position;
    }

    public int stateOf(int token) throws IndexOutOfBoundsException {
        Entry entry = entryOf(token);
        if (entry == null) {
            throw new IndexOutOfBoundsException("no such token");
        }
        return entry.steps;
    }

    public int pointer(int token, int stream, int k) throws IndexOutOfBoundsException {
        Entry entry = entryOf(token);
        if (entry == null || !isStream(stream) || !isPointerNumber(k)) {
            throw new IndexOutOfBoundsException("no such token, stream or pointer");
        }
        return entry.pointers.get(stream, k);
    }

    public int cellAt(int replica, int position) throws IndexOutOfBoundsException {
        if (!isReplica(replica) || !isPosition(position)) {
            throw new IndexOutOfBoundsException("no such replica or position");
        }
        return cells.get(replica, position);
    }

    public int known() {
        return cells.completeFromStart();
    }

    // ---- folding

    public boolean takesEffect(int position) throws IndexOutOfBoundsException {
        if (position < 0 || position >= cells.completeFromStart()) {
            throw new IndexOutOfBoundsException("not a known position");
        }
        foldUpTo(position + 1);
        return fold.hasEffect(position);
    }

    public int value(int stream, int position) throws IndexOutOfBoundsException {
        if (!isStream(stream) || !isEndOfKnown(position)) {
            throw new IndexOutOfBoundsException("no such stream or known position");
        }
        foldUpTo(position);
        int sum = 0;
        for (int p = 0; p < position; p++) {
            if (holdsStream(p, stream)) {
                sum += effectOf(p);
            }
        }
        return sum;
    }

    public int valueByPointers(int stream, int position) throws IndexOutOfBoundsException {
        if (!isStream(stream) || !isEndOfKnown(position)) {
            throw new IndexOutOfBoundsException("no such stream or known position");
        }
        foldUpTo(position);
        int sum = 0;
        int at = latestAhead(stream, position);
        // A pointer leads to a lower position, so no position is come to twice.
        for (int found = 0; found < POSITIONS && at != NONE; found++) {
            sum += effectOf(at);
            at = previousByPointers(stream, at);
        }
        return sum;
    }

    public int latest(int stream, int position) throws IndexOutOfBoundsException {
        if (!isStream(stream) || !isEndOfKnown(position)) {
            throw new IndexOutOfBoundsException("no such stream or known position");
        }
        return latestAhead(stream, position);
    }

    // ---- what the calls share

    private static boolean isStream(int stream) {
        return stream >= 0 && stream < STREAMS;
    }

    private static boolean isSetOfStreams(int streams) {
        return streams >= 1 && streams <= ALL_STREAMS;
    }

    private static boolean isAmount(int amount) {
        return amount >= -GREATEST_AMOUNT && amount <= GREATEST_AMOUNT;
    }

    private static boolean isPosition(int position) {
        return position >= 0 && position < POSITIONS;
    }

    private static boolean isReplica(int replica) {
        return replica >= 0 && replica < REPLICAS;
    }

    private static boolean isPointerNumber(int k) {
        return k >= 0 && k < POINTERS;
    }

    private static boolean isIn(int stream, int streams) {
        return (streams >> stream & 1) == 1;
    }

    private boolean isEndOfKnown(int position) {
        return position >= 0 && position <= cells.completeFromStart();
    }

    private int handOut(int streams, int amount, int read, int version) {
        if (sequencerLost || tail >= POSITIONS || handedOut >= entries.length) {
            throw new IllegalStateException("the sequencer hands out nothing");
        }
        int token = handedOut;
        Trail pointers = sequencerKnows.copyFor(streams);
        entries[token] = new Entry(tail, epoch, streams, amount, read, version, pointers);
        sequencerKnows.push(streams, tail);
        handedOut++;
        tail++;
        return token;
    }

    /** The entry of a token, null if there is no such token. */
    private Entry entryOf(int token) {
        return token >= 0 && token < entries.length ? entries[token] : null;
    }

    /** The entry at a position, null if there is none: the replica 0 is the first that gets an entry. */
    private Entry entryIn(int position) {
        return entryOf(cells.get(0, position));
    }

    private boolean holdsStream(int position, int stream) {
        Entry entry = entryIn(position);
        return entry != null && isIn(stream, entry.streams);
    }

    private int latestAhead(int stream, int position) {
        for (int p = position - 1; p >= 0; p--) {
            if (holdsStream(p, stream)) {
                return p;
            }
        }
        return NONE;
    }

    private int previousByPointers(int stream, int position) {
        Entry entry = entryIn(position);
        if (entry == null) {
            return NONE;
        }
        int lowest = NONE;
        for (int k = 0; k < POINTERS; k++) {
            int pointed = entry.pointers.get(stream, k);
            if (pointed == NONE) {
                // With fewer than four pointers the sequencer knew all of the stream.
                return NONE;
            }
            if (entryIn(pointed) != null) {
                return pointed;
            }
            lowest = pointed;
        }
        return latestAhead(stream, lowest);
    }

    private void foldUpTo(int position) {
        fold.restart();
        for (int p = 0; p < position; p++) {
            fold.add(entryIn(p));
        }
    }

    /** What the entry at a folded position adds to each of its streams. */
    private int effectOf(int position) {
        Entry entry = entryIn(position);
        return entry != null && fold.hasEffect(position) ? entry.amount : 0;
    }

    /** The entry of a token, and how far it is written. */
    private static final class Entry {
        private final int position;
        private final int epoch;
        private final int streams;
        private final int amount;
        private final int read;
        private final int version;
        private final Trail pointers;
        private int steps = 0;

        private Entry(int position, int epoch, int streams, int amount, int read, int version, Trail pointers) {
            this.position = position;
            this.epoch = epoch;
            this.streams = streams;
            this.amount = amount;
            this.read = read;
            this.version = version;
            this.pointers = pointers;
        }
    }

    /** For each stream its latest positions, up to four, the latest first. */
    private static final class Trail {
        private final int[] positions = new int[STREAMS * POINTERS];

        private Trail() {
            Arrays.fill(positions, NONE);
        }

        private void clear() {
            Arrays.fill(positions, NONE);
        }

        private int get(int stream, int k) {
            return isStream(stream) && isPointerNumber(k) ? positions[stream * POINTERS + k] : NONE;
        }

        private void set(int stream, int k, int position) {
            if (isStream(stream) && isPointerNumber(k)) {
                positions[stream * POINTERS + k] = position;
            }
        }

        private void push(int streams, int position) {
            for (int stream = 0; stream < STREAMS; stream++) {
                if (isIn(stream, streams)) {
                    for (int k = POINTERS - 1; k > 0; k--) {
                        set(stream, k, get(stream, k - 1));
                    }
                    set(stream, 0, position);
                }
            }
        }

        private Trail copyFor(int streams) {
            Trail copy = new Trail();
            for (int stream = 0; stream < STREAMS; stream++) {
                if (isIn(stream, streams)) {
                    for (int k = 0; k < POINTERS; k++) {
                        copy.set(stream, k, get(stream, k));
                    }
                }
            }
            return copy;
        }
    }

    /** The cells of all replicas: a token, JUNK or EMPTY in each. */
    private static final class Cells {
        private final int[] contents = new int[REPLICAS * POSITIONS];

        private Cells() {
            Arrays.fill(contents, EMPTY);
        }

        private int get(int replica, int position) {
            return isReplica(replica) && isPosition(position) ? contents[replica * POSITIONS + position] : EMPTY;
        }

        /** Writes a cell, unless it was written before: what it holds stays for ever. */
        private void put(int replica, int position, int content) {
            if (isReplica(replica) && isPosition(position) && get(replica, position) == EMPTY) {
                contents[replica * POSITIONS + position] = content;
            }
        }

        private int countWritten(int position) {
            int written = 0;
            for (int replica = 0; replica < REPLICAS; replica++) {
                if (get(replica, position) != EMPTY) {
                    written++;
                }
            }
            return written;
        }

        private boolean isComplete(int position) {
            return countWritten(position) == REPLICAS;
        }

        private int completeFromStart() {
            for (int position = 0; position < POSITIONS; position++) {
                if (!isComplete(position)) {
                    return position;
                }
            }
            return POSITIONS;
        }

        /** The position behind the greatest one with a cell that is not empty. */
        private int end() {
            for (int position = POSITIONS - 1; position >= 0; position--) {
                if (countWritten(position) > 0) {
                    return position + 1;
                }
            }
            return 0;
        }
    }

    /** Which entries take effect, the log being folded position by position from 0 on. */
    private static final class Fold {
        private final boolean[] effects = new boolean[POSITIONS];
        // For each stream the latest position folded whose entry takes effect.
        private final int[] changes = new int[STREAMS];
        private int folded = 0;

        private void restart() {
            folded = 0;
            Arrays.fill(changes, NONE);
        }

        /** Folds the next position; its entry is null if it holds junk. */
        private void add(Entry entry) {
            if (folded < 0 || folded >= effects.length) {
                return;
            }
            boolean effective = entry != null && isUnchanged(entry.read, entry.version);
            effects[folded] = effective;
            if (effective) {
                noteChange(entry.streams);
            }
            folded++;
        }

        private boolean hasEffect(int position) {
            return position >= 0 && position < folded && position < effects.length && effects[position];
        }

        private boolean isUnchanged(int streams, int version) {
            for (int stream = 0; stream < changes.length; stream++) {
                if (isIn(stream, streams) && changes[stream] >= version) {
                    return false;
                }
            }
            return true;
        }

        private void noteChange(int streams) {
            for (int stream = 0; stream < changes.length; stream++) {
                if (isIn(stream, streams)) {
                    changes[stream] = folded;
                }
            }
        }
    }
}
