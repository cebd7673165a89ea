/** Long mixed runs, each call's answer compared with the model's; the runs are the same every time. */
public final class ModelTest {
    private static final Checks CHECKS = new Checks();
    private static final int RUNS = 6000;
    private static final int CALLS = 512;
    /** How many of 100 calls are: take, takeIf, lose, seal, write, fill; the rest looks at the log. */
    private static final int[][] MIXES = {
        {12, 12, 1, 2, 30, 13},
        {20, 10, 1, 0, 60, 5},
        {10, 25, 0, 1, 10, 40},
        {50, 20, 0, 4, 10, 3},
        {5, 5, 5, 10, 25, 25},
        {28, 12, 0, 0, 15, 35},
    };

    private final SharedLog log = new SharedLog();
    private final Model model = new Model();
    private final int[] mix;
    private final int run;
    private long seed;

    private ModelTest(int run) {
        this.run = run;
        this.mix = MIXES[run % MIXES.length];
        this.seed = run * 7919L + 17;
    }

    public static void main(String[] args) {
        for (int run = 0; run < RUNS && !CHECKS.anyWrong(); run++) {
            new ModelTest(run).play();
        }
        CHECKS.end();
    }

    private void play() {
        for (int call = 0; call < CALLS && !CHECKS.anyWrong(); call++) {
            int choice = below(100);
            int kind = 0;
            while (kind < mix.length && choice >= mix[kind]) {
                choice -= mix[kind];
                kind++;
            }
            if (kind < mix.length) {
                change(kind);
            } else {
                look(below(12));
            }
        }
    }

    private void change(int kind) {
        int streams = oddly(16) ? below(20) - 2 : 1 << below(4) | below(16);
        int amount = oddly(30) ? (below(2) * 2 - 1) * (999 + below(3)) : below(2001) - 1000;
        switch (kind) {
            case 0 -> same("take(" + streams + ", " + amount + ")",
                    () -> model.take(streams, amount), () -> log.take(streams, amount));
            case 1 -> takeIf(streams, amount);
            case 2 -> same("lose()", model::lose, log::lose);
            case 3 -> same("seal()", model::seal, log::seal);
            case 4 -> {
                int token = aToken();
                same("write(" + token + ")", () -> model.write(token), () -> log.write(token));
            }
            default -> {
                int position = aPosition();
                same("fill(" + position + ")",
                        () -> Checks.yes(model.fill(position)), () -> Checks.yes(log.fill(position)));
            }
        }
    }

    private void takeIf(int streams, int amount) {
        int read = oddly(16) ? below(20) - 2 : 1 << below(4);
        int tail = model.tail();
        int version = oddly(16) ? tail + below(4) - 1 : tail - Math.min(tail, below(6));
        same("takeIf(" + streams + ", " + amount + ", " + read + ", " + version + ")",
                () -> model.takeIf(streams, amount, read, version),
                () -> log.takeIf(streams, amount, read, version));
    }

    private void look(int kind) {
        int token = aToken();
        int position = aPosition();
        int stream = oddly(12) ? below(8) - 2 : below(4);
        int number = oddly(12) ? below(8) - 2 : below(4);
        int upTo = oddly(8) ? below(124) - 2 : model.known() - below(Math.min(4, model.known() + 1));
        switch (kind) {
            case 0 -> same("epoch()", model::epoch, log::epoch);
            case 1 -> same("tail()", model::tail, log::tail);
            case 2 -> same("tokens()", model::tokens, log::tokens);
            case 3 -> same("positionOf(" + token + ")", () -> model.positionOf(token), () -> log.positionOf(token));
            case 4 -> same("stateOf(" + token + ")", () -> model.stateOf(token), () -> log.stateOf(token));
            case 5 -> same("pointer(" + token + ", " + stream + ", " + number + ")",
                    () -> model.pointer(token, stream, number), () -> log.pointer(token, stream, number));
            case 6 -> same("cellAt(" + number + ", " + position + ")",
                    () -> model.cellAt(number, position), () -> log.cellAt(number, position));
            case 7 -> same("known()", model::known, log::known);
            case 8 -> same("takesEffect(" + upTo + ")",
                    () -> Checks.yes(model.takesEffect(upTo)), () -> Checks.yes(log.takesEffect(upTo)));
            case 9 -> same("value(" + stream + ", " + upTo + ")",
                    () -> model.value(stream, upTo), () -> log.value(stream, upTo));
            case 10 -> same("valueByPointers(" + stream + ", " + upTo + ")",
                    () -> model.value(stream, upTo), () -> log.valueByPointers(stream, upTo));
            default -> same("latest(" + stream + ", " + upTo + ")",
                    () -> model.latest(stream, upTo), () -> log.latest(stream, upTo));
        }
    }

    private void same(String what, Checks.Call due, Checks.Call call) {
        String want = Checks.outcome(due);
        String got = Checks.outcome(call);
        if (!got.equals(want)) {
            CHECKS.report("run " + run + ": " + what, got, want);
        }
    }

    /** Mostly one of the latest tokens, which can still be written. */
    private int aToken() {
        int tokens = model.tokens();
        return oddly(16) ? below(154) - 2 : tokens - 1 - below(Math.min(tokens, 12) + 1);
    }

    /** Mostly one of the first positions that are not known. */
    private int aPosition() {
        return oddly(16) ? below(124) - 2 : model.known() + below(4);
    }

    private boolean oddly(int times) {
        return below(times) == 0;
    }

    private int below(int bound) {
        seed = seed * 6364136223846793005L + 1442695040888963407L;
        return (int) ((seed >>> 33) % bound);
    }
}
