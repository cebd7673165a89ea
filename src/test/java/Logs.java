/** Runs of calls that several tests begin with. */
final class Logs {
    static final int FAR_BELOW = Integer.MIN_VALUE;
    static final int FAR_ABOVE = Integer.MAX_VALUE;

    /** Takes a token and writes it to all replicas. */
    static int append(SharedLog log, int streams, int amount) {
        return writeWhole(log, log.take(streams, amount));
    }

    static int appendIf(SharedLog log, int streams, int amount, int read, int version) {
        return writeWhole(log, log.takeIf(streams, amount, read, version));
    }

    static int writeWhole(SharedLog log, int token) {
        for (int replica = 0; replica < 3; replica++) {
            log.write(token);
        }
        return token;
    }

    /** Takes a token whose position becomes junk. */
    static int junk(SharedLog log, int streams) {
        int token = log.take(streams, 1000);
        log.fill(log.positionOf(token));
        return token;
    }

    /** A log with all 120 positions handed out and none written. */
    static SharedLog handedOut() {
        return withTail(120);
    }

    /** A log with all 150 tokens handed out: the last 75 have the positions 0 to 74 again. */
    static SharedLog allTokens() {
        SharedLog log = new SharedLog();
        for (int token = 0; token < 150; token++) {
            if (token == 75) {
                log.seal();
            }
            log.take(1, 1);
        }
        return log;
    }

    /** A log at the position 120 and with all 150 tokens at once: the last 120 begin at the position 0 again. */
    static SharedLog fullWithAllTokens() {
        SharedLog log = new SharedLog();
        for (int token = 0; token < 150; token++) {
            if (token == 30) {
                log.seal();
            }
            log.take(1, 1);
        }
        return log;
    }

    /** A log with a tail, each entry ahead of it being of the stream 0 and not written. */
    static SharedLog withTail(int tail) {
        SharedLog log = new SharedLog();
        for (int position = 0; position < tail; position++) {
            log.take(1, 1);
        }
        return log;
    }

    /** The same without a sequencer. */
    static SharedLog lostAt(int tail) {
        SharedLog log = withTail(tail);
        log.lose();
        return log;
    }

    /** A full log whose entries of the amount are all written and known. */
    static SharedLog allKnown(int streams, int amount) {
        SharedLog log = new SharedLog();
        for (int position = 0; position < 120; position++) {
            int token = log.take(streams, amount);
            log.write(token);
            log.fill(position);
        }
        return log;
    }
}
