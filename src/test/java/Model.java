import java.util.ArrayList;
import java.util.Arrays;
import java.util.List;

/** The document's words told another way than in the class: slow, with lists, and with nothing kept that can be found. */
final class Model {
    private static final int NO_CONDITION = 0;

    private static final class Token {
        int position;
        int epoch;
        int streams;
        int amount;
        int read;
        int version;
        int state;
        final List<List<Integer>> pointers = new ArrayList<>();
    }

    private final List<Token> tokens = new ArrayList<>();
    private final int[][] cells = new int[120][3];
    private List<List<Integer>> latest = noPositions();
    private int epoch = 0;
    private int tail = 0;

    Model() {
        for (int[] position : cells) {
            Arrays.fill(position, -2);
        }
    }

    private static List<List<Integer>> noPositions() {
        List<List<Integer>> none = new ArrayList<>();
        for (int stream = 0; stream < 4; stream++) {
            none.add(new ArrayList<>());
        }
        return none;
    }

    private static void ask(boolean holds, RuntimeException otherwise) {
        if (!holds) {
            throw otherwise;
        }
    }

    private static boolean within(int number, int from, int to) {
        return from <= number && number <= to;
    }

    private static boolean has(int streams, int stream) {
        return within(stream, 0, 3) && streams / (1 << stream) % 2 == 1;
    }

    int take(int streams, int amount) {
        ask(within(streams, 1, 15) && within(amount, -1000, 1000), new IllegalArgumentException());
        return handOut(streams, amount, NO_CONDITION, 0);
    }

    int takeIf(int streams, int amount, int read, int version) {
        ask(within(streams, 1, 15) && within(amount, -1000, 1000), new IllegalArgumentException());
        ask(within(read, 1, 15), new IllegalArgumentException());
        ask(tail == -1 || within(version, 0, tail), new IllegalArgumentException());
        return handOut(streams, amount, read, version);
    }

    private int handOut(int streams, int amount, int read, int version) {
        ask(tail != -1 && tail != 120 && tokens.size() != 150, new IllegalStateException());
        Token token = new Token();
        token.position = tail;
        token.epoch = epoch;
        token.streams = streams;
        token.amount = amount;
        token.read = read;
        token.version = version;
        for (int stream = 0; stream < 4; stream++) {
            List<Integer> known = latest.get(stream);
            boolean belongs = has(streams, stream);
            int from = belongs ? Math.max(0, known.size() - 4) : known.size();
            token.pointers.add(new ArrayList<>(known.subList(from, known.size())));
            if (belongs) {
                known.add(tail);
            }
        }
        tokens.add(token);
        tail++;
        return tokens.size() - 1;
    }

    int lose() {
        ask(tail != -1, new IllegalStateException());
        int was = tail;
        tail = -1;
        return was;
    }

    int seal() {
        epoch++;
        tail = 0;
        latest = noPositions();
        for (int position = 0; position < 120; position++) {
            for (int content : cells[position]) {
                if (content != -2) {
                    tail = position + 1;
                }
            }
            for (int stream = 0; stream < 4; stream++) {
                if (cells[position][0] >= 0 && has(tokens.get(cells[position][0]).streams, stream)) {
                    latest.get(stream).add(position);
                }
            }
        }
        return tail;
    }

    int write(int number) {
        Token token = tokenOf(number);
        ask(within(token.state, 0, 2) && token.epoch == epoch, new IllegalStateException());
        int content = cells[token.position][token.state];
        if (content == -1) {
            token.state = -1;
            return -1;
        }
        ask(content == -2 || content == number, new RuntimeException("two entries for one cell"));
        cells[token.position][token.state] = number;
        return ++token.state;
    }

    boolean fill(int position) {
        ask(within(position, 0, 119), new IndexOutOfBoundsException());
        ask(tail != -1 && position < tail && !complete(position), new IllegalStateException());
        int content = cells[position][0] >= 0 ? cells[position][0] : -1;
        Arrays.fill(cells[position], content);
        return content != -1;
    }

    int epoch() {
        return epoch;
    }

    int tail() {
        return tail;
    }

    int tokens() {
        return tokens.size();
    }

    int positionOf(int token) {
        return tokenOf(token).position;
    }

    int stateOf(int token) {
        return tokenOf(token).state;
    }

    int pointer(int token, int stream, int k) {
        Token of = tokenOf(token);
        ask(within(stream, 0, 3) && within(k, 0, 3), new IndexOutOfBoundsException());
        List<Integer> pointers = of.pointers.get(stream);
        return k < pointers.size() ? pointers.get(pointers.size() - 1 - k) : -1;
    }

    int cellAt(int replica, int position) {
        ask(within(replica, 0, 2) && within(position, 0, 119), new IndexOutOfBoundsException());
        return cells[position][replica];
    }

    int known() {
        int known = 0;
        while (known < 120 && complete(known)) {
            known++;
        }
        return known;
    }

    boolean takesEffect(int position) {
        ask(within(position, 0, known() - 1), new IndexOutOfBoundsException());
        return effects(position + 1)[position];
    }

    /** Also the answer of valueByPointers: all ways to fold give the same value. */
    int value(int stream, int position) {
        ask(within(stream, 0, 3) && within(position, 0, known()), new IndexOutOfBoundsException());
        boolean[] effects = effects(position);
        int sum = 0;
        for (int p = 0; p < position; p++) {
            if (effects[p] && has(entryAt(p).streams, stream)) {
                sum += entryAt(p).amount;
            }
        }
        return sum;
    }

    int latest(int stream, int position) {
        ask(within(stream, 0, 3) && within(position, 0, known()), new IndexOutOfBoundsException());
        int latest = -1;
        for (int p = 0; p < position; p++) {
            if (entryAt(p) != null && has(entryAt(p).streams, stream)) {
                latest = p;
            }
        }
        return latest;
    }

    private Token tokenOf(int number) {
        ask(within(number, 0, tokens.size() - 1), new IndexOutOfBoundsException());
        return tokens.get(number);
    }

    private Token entryAt(int position) {
        int content = cells[position][0];
        return content < 0 ? null : tokens.get(content);
    }

    private boolean complete(int position) {
        return cells[position][0] != -2 && cells[position][1] != -2 && cells[position][2] != -2;
    }

    private boolean[] effects(int upTo) {
        boolean[] effects = new boolean[upTo];
        for (int p = 0; p < upTo; p++) {
            Token entry = entryAt(p);
            effects[p] = entry != null;
            for (int q = entry == null ? p : entry.version; q < p; q++) {
                if (effects[q] && (entryAt(q).streams & entry.read) != 0) {
                    effects[p] = false;
                }
            }
        }
        return effects;
    }
}
