/** Promises 8 to 15: epoch, tail, tokens, positionOf, stateOf, pointer, cellAt, known. */
public final class LookTest {
    private static final Checks CHECKS = new Checks();
    private static final int[] NO_TOKENS = {Logs.FAR_BELOW, -1, 3, 149, 150, Logs.FAR_ABOVE};

    public static void main(String[] args) {
        epochCountsSeals();
        tailTellsTheNextPosition();
        tokensCountsWhatWasHandedOut();
        positionOfATokenStays();
        stateOfAToken();
        pointersOfATaker();
        pointersShift();
        pointerRefuses();
        cellAtTellsTheContent();
        cellAtRefuses();
        knownEndsAtTheFirstHole();
        CHECKS.end();
    }

    private static SharedLog threeTokens() {
        SharedLog log = new SharedLog();
        log.take(1, 1);
        log.take(2, 2);
        log.take(3, 3);
        return log;
    }

    private static void epochCountsSeals() {
        SharedLog log = new SharedLog();
        CHECKS.due("8: at first", 0, log::epoch);
        for (int seals = 1; seals <= 200; seals++) {
            log.seal();
            CHECKS.due("8: after " + seals + " seals", seals, log::epoch);
        }
        log.lose();
        CHECKS.due("8: lose begins no epoch", 200, log::epoch);
    }

    private static void tailTellsTheNextPosition() {
        SharedLog log = new SharedLog();
        for (int position = 0; position < 120; position++) {
            CHECKS.due("9: tail", position, log::tail);
            log.take(1, 1);
        }
        CHECKS.due("9: tail of a full log", 120, log::tail);
        log.lose();
        CHECKS.due("9: tail without a sequencer", -1, log::tail);
        log.seal();
        CHECKS.due("9: tail behind the seal", 0, log::tail);
    }

    private static void tokensCountsWhatWasHandedOut() {
        SharedLog log = threeTokens();
        CHECKS.due("10: tokens", 3, log::tokens);
        log.lose();
        CHECKS.due("10: tokens without a sequencer", 3, log::tokens);
        log.seal();
        CHECKS.due("10: tokens behind the seal", 3, log::tokens);
        log.take(1, 1);
        CHECKS.due("10: tokens", 4, log::tokens);
        CHECKS.due("10: all tokens", 150, Logs.allTokens()::tokens);
    }

    private static void positionOfATokenStays() {
        SharedLog log = threeTokens();
        log.write(0);
        log.seal();
        log.take(1, 1);
        CHECKS.due("11: positionOf(0)", 0, () -> log.positionOf(0));
        CHECKS.due("11: positionOf(2)", 2, () -> log.positionOf(2));
        CHECKS.due("11: positionOf(3)", 1, () -> log.positionOf(3));
        for (int token : new int[] {Logs.FAR_BELOW, -1, 4, 149, 150, Logs.FAR_ABOVE}) {
            CHECKS.dueOutOfBounds("11: positionOf(" + token + ")", () -> log.positionOf(token));
        }
        SharedLog spent = Logs.allTokens();
        CHECKS.due("11: positionOf(149)", 74, () -> spent.positionOf(149));
        CHECKS.dueOutOfBounds("11: positionOf(150)", () -> spent.positionOf(150));
    }

    private static void stateOfAToken() {
        SharedLog log = threeTokens();
        for (int state = 0; state < 3; state++) {
            CHECKS.due("12: state", state, () -> log.stateOf(1));
            log.write(1);
        }
        CHECKS.due("12: all replicas", 3, () -> log.stateOf(1));
        log.fill(0);
        CHECKS.due("12: ahead of the lost write", 0, () -> log.stateOf(0));
        log.write(0);
        CHECKS.due("12: lost", -1, () -> log.stateOf(0));
        log.write(2);
        log.seal();
        CHECKS.due("12: a sealed token", 1, () -> log.stateOf(2));
        CHECKS.due("12: a sealed lost token", -1, () -> log.stateOf(0));
        CHECKS.due("12: a sealed written token", 3, () -> log.stateOf(1));
        for (int token : NO_TOKENS) {
            CHECKS.dueOutOfBounds("12: stateOf(" + token + ")", () -> log.stateOf(token));
        }
    }

    private static void pointersOfATaker() {
        SharedLog log = threeTokens();
        CHECKS.due("13: the first token has none", -1, () -> log.pointer(0, 0, 0));
        CHECKS.due("13: the first of its stream has none", -1, () -> log.pointer(1, 1, 0));
        CHECKS.due("13: of the stream 0", 0, () -> log.pointer(2, 0, 0));
        CHECKS.due("13: of the stream 1", 1, () -> log.pointer(2, 1, 0));
        CHECKS.due("13: only one of the stream 0", -1, () -> log.pointer(2, 0, 1));
        CHECKS.due("13: a stream that it does not have", -1, () -> log.pointer(1, 0, 0));
        CHECKS.due("13: the last stream and pointer", -1, () -> log.pointer(2, 3, 3));
        log.fill(0);
        log.write(2);
        CHECKS.due("13: a pointer to junk stays", 0, () -> log.pointer(2, 0, 0));
        log.seal();
        CHECKS.due("13: a seal leaves pointers", 1, () -> log.pointer(2, 1, 0));
        log.take(3, 4);
        CHECKS.due("13: junk is not known behind the seal", 2, () -> log.pointer(3, 0, 0));
        CHECKS.due("13: junk is not known behind the seal", -1, () -> log.pointer(3, 0, 1));
    }

    private static void pointersShift() {
        SharedLog log = new SharedLog();
        for (int token = 0; token < 7; token++) {
            log.take(9, 1);
            for (int k = 0; k < 4; k++) {
                int t = token;
                int number = k;
                int want = token - 1 - k < 0 ? -1 : token - 1 - k;
                CHECKS.due("13: pointer(" + t + ", 0, " + k + ")", want, () -> log.pointer(t, 0, number));
                CHECKS.due("13: pointer(" + t + ", 3, " + k + ")", want, () -> log.pointer(t, 3, number));
                CHECKS.due("13: pointer(" + t + ", 1, " + k + ")", -1, () -> log.pointer(t, 1, number));
            }
        }
    }

    private static void pointerRefuses() {
        SharedLog log = threeTokens();
        for (int token : NO_TOKENS) {
            CHECKS.dueOutOfBounds("13: pointer(" + token + ", 0, 0)", () -> log.pointer(token, 0, 0));
        }
        for (int number : new int[] {Logs.FAR_BELOW, -1, 4, Logs.FAR_ABOVE}) {
            CHECKS.dueOutOfBounds("13: pointer(2, " + number + ", 0)", () -> log.pointer(2, number, 0));
            CHECKS.dueOutOfBounds("13: pointer(2, 0, " + number + ")", () -> log.pointer(2, 0, number));
        }
    }

    private static void cellAtTellsTheContent() {
        SharedLog log = threeTokens();
        log.write(0);
        log.fill(1);
        CHECKS.due("14: an entry", 0, () -> log.cellAt(0, 0));
        CHECKS.due("14: not written yet", -2, () -> log.cellAt(1, 0));
        CHECKS.due("14: not written yet", -2, () -> log.cellAt(2, 0));
        CHECKS.due("14: junk", -1, () -> log.cellAt(0, 1));
        CHECKS.due("14: junk in the last replica", -1, () -> log.cellAt(2, 1));
        CHECKS.due("14: handed out, but empty", -2, () -> log.cellAt(0, 2));
        CHECKS.due("14: the last cell", -2, () -> log.cellAt(2, 119));
        log.seal();
        log.take(1, 4);
        log.write(3);
        CHECKS.due("14: the token, not the position", 3, () -> log.cellAt(0, 2));

        SharedLog full = Logs.handedOut();
        Logs.writeWhole(full, 119);
        CHECKS.due("14: the last cell", 119, () -> full.cellAt(2, 119));
    }

    private static void cellAtRefuses() {
        SharedLog log = threeTokens();
        for (int replica : new int[] {Logs.FAR_BELOW, -1, 3, Logs.FAR_ABOVE}) {
            CHECKS.dueOutOfBounds("14: cellAt(" + replica + ", 0)", () -> log.cellAt(replica, 0));
        }
        for (int position : new int[] {Logs.FAR_BELOW, -1, 120, Logs.FAR_ABOVE}) {
            CHECKS.dueOutOfBounds("14: cellAt(0, " + position + ")", () -> log.cellAt(0, position));
            CHECKS.dueOutOfBounds("14: cellAt(2, " + position + ")", () -> log.cellAt(2, position));
        }
    }

    private static void knownEndsAtTheFirstHole() {
        SharedLog log = threeTokens();
        CHECKS.due("15: nothing is complete", 0, log::known);
        Logs.writeWhole(log, 1);
        CHECKS.due("15: a hole at 0", 0, log::known);
        log.write(0);
        log.write(0);
        CHECKS.due("15: half written", 0, log::known);
        log.write(0);
        CHECKS.due("15: two positions", 2, log::known);
        log.fill(2);
        CHECKS.due("15: junk is known", 3, log::known);
        log.lose();
        CHECKS.due("15: known without a sequencer", 3, log::known);

        SharedLog full = Logs.handedOut();
        for (int position = 0; position < 120; position++) {
            full.fill(position);
        }
        CHECKS.due("15: all positions", 120, full::known);
    }
}
