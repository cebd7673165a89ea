/** The boundary cases of the promises 8 to 15, a case for each. */
public final class LookEdgesTest {
    private static final Checks CHECKS = new Checks();

    public static void main(String[] args) {
        CHECKS.runCases(LookEdgesTest.class);
        CHECKS.end();
    }

    private static void pointersDue(String what, SharedLog log, int token, int stream, int... want) {
        for (int k = 0; k < 4; k++) {
            int number = k;
            CHECKS.due(what + ": pointer(" + token + ", " + stream + ", " + k + ")", want[k],
                    () -> log.pointer(token, stream, number));
        }
    }

    // ---- promise 8: epoch

    static void epochAtFirst() {
        CHECKS.due("8: epoch()", 0, new SharedLog()::epoch);
    }

    static void epochGoesUpByOneWithEachSeal() {
        SharedLog log = Logs.lostAt(1);
        log.seal();
        CHECKS.due("8: of a lost sequencer", 1, log::epoch);
        log.seal();
        CHECKS.due("8: of one that is there", 2, log::epoch);
    }

    static void epochStaysWithEveryOtherCall() {
        SharedLog log = Logs.withTail(2);
        log.takeIf(1, 1, 1, 0);
        log.write(0);
        log.fill(1);
        log.lose();
        CHECKS.due("8: epoch()", 0, log::epoch);
    }

    static void epochStaysWithARefusedCall() {
        SharedLog log = Logs.lostAt(1);
        CHECKS.dueState("8: lose()", log::lose);
        CHECKS.dueState("8: take(1, 1)", () -> log.take(1, 1));
        CHECKS.due("8: epoch()", 0, log::epoch);
    }

    // ---- promise 9: tail

    static void tailAtFirst() {
        CHECKS.due("9: tail()", 0, new SharedLog()::tail);
    }

    static void tailGoesUpByOneWithEachToken() {
        SharedLog log = new SharedLog();
        log.take(15, 1);
        CHECKS.due("9: tail()", 1, log::tail);
        log.takeIf(1, 1, 1, 0);
        CHECKS.due("9: tail()", 2, log::tail);
    }

    static void tailOfAFullLog() {
        CHECKS.due("9: one ahead", 119, Logs.withTail(119)::tail);
        CHECKS.due("9: full", 120, Logs.withTail(120)::tail);
    }

    static void tailOfALostSequencer() {
        CHECKS.due("9: at 0", -1, Logs.lostAt(0)::tail);
        CHECKS.due("9: at 1", -1, Logs.lostAt(1)::tail);
        CHECKS.due("9: at 120", -1, Logs.lostAt(120)::tail);
    }

    static void tailBehindASeal() {
        SharedLog log = Logs.lostAt(3);
        log.write(0);
        log.seal();
        CHECKS.due("9: tail()", 1, log::tail);
    }

    static void tailStaysWithARefusedTake() {
        SharedLog log = Logs.withTail(120);
        CHECKS.dueState("9: take(1, 1)", () -> log.take(1, 1));
        CHECKS.dueState("9: takeIf(1, 1, 1, 0)", () -> log.takeIf(1, 1, 1, 0));
        CHECKS.due("9: tail()", 120, log::tail);
    }

    // ---- promise 10: tokens

    static void tokensAtFirst() {
        CHECKS.due("10: tokens()", 0, new SharedLog()::tokens);
    }

    static void tokensGoUpByOneWithEachToken() {
        SharedLog log = new SharedLog();
        log.take(15, 1);
        CHECKS.due("10: tokens()", 1, log::tokens);
        log.takeIf(1, 1, 1, 0);
        CHECKS.due("10: tokens()", 2, log::tokens);
    }

    static void tokensOfAllThatThereAre() {
        SharedLog log = Logs.allTokens();
        CHECKS.due("10: tokens()", 150, log::tokens);
        CHECKS.dueState("10: take(1, 1)", () -> log.take(1, 1));
        CHECKS.dueState("10: takeIf(1, 1, 1, 0)", () -> log.takeIf(1, 1, 1, 0));
        CHECKS.due("10: tokens()", 150, log::tokens);
    }

    static void tokensStayWithALossAndASeal() {
        SharedLog log = Logs.lostAt(3);
        CHECKS.due("10: lost", 3, log::tokens);
        log.seal();
        CHECKS.due("10: sealed", 3, log::tokens);
    }

    static void tokensCountTheLostOnes() {
        SharedLog log = Logs.withTail(1);
        log.fill(0);
        log.write(0);
        CHECKS.due("10: tokens()", 1, log::tokens);
    }

    // ---- promise 11: positionOf

    static void positionOfTheFirstToken() {
        SharedLog log = Logs.withTail(1);
        CHECKS.due("11: positionOf(0)", 0, () -> log.positionOf(0));
    }

    static void positionOfTheLastPosition() {
        SharedLog log = Logs.withTail(120);
        CHECKS.due("11: positionOf(119)", 119, () -> log.positionOf(119));
    }

    static void positionOfTheLastToken() {
        SharedLog log = Logs.allTokens();
        CHECKS.due("11: positionOf(149)", 74, () -> log.positionOf(149));
        CHECKS.dueOutOfBounds("11: positionOf(150)", () -> log.positionOf(150));
    }

    static void positionOfATokenBelow0() {
        SharedLog log = Logs.withTail(2);
        for (int token : new int[] {-1, -2, Logs.FAR_BELOW}) {
            CHECKS.dueOutOfBounds("11: positionOf(" + token + ")", () -> log.positionOf(token));
        }
    }

    static void positionOfATokenTooLarge() {
        SharedLog log = Logs.withTail(2);
        for (int token : new int[] {2, 3, 149, 150, Logs.FAR_ABOVE}) {
            CHECKS.dueOutOfBounds("11: positionOf(" + token + ")", () -> log.positionOf(token));
        }
    }

    static void positionOfANewLog() {
        SharedLog log = new SharedLog();
        CHECKS.dueOutOfBounds("11: positionOf(0)", () -> log.positionOf(0));
    }

    static void positionOfASealedTokenWhosePositionIsHandedOutAgain() {
        SharedLog log = Logs.withTail(2);
        log.seal();
        log.take(1, 1);
        CHECKS.due("11: the old one", 0, () -> log.positionOf(0));
        CHECKS.due("11: the new one", 0, () -> log.positionOf(2));
    }

    static void positionOfALostToken() {
        SharedLog log = Logs.withTail(2);
        log.fill(1);
        log.write(1);
        CHECKS.due("11: positionOf(1)", 1, () -> log.positionOf(1));
    }

    // ---- promise 12: stateOf

    static void stateOfATokenAtFirst() {
        SharedLog log = Logs.withTail(1);
        CHECKS.due("12: stateOf(0)", 0, () -> log.stateOf(0));
    }

    static void stateOfATokenWithEachStep() {
        SharedLog log = Logs.withTail(1);
        for (int step = 1; step <= 3; step++) {
            log.write(0);
            CHECKS.due("12: stateOf(0)", step, () -> log.stateOf(0));
        }
        CHECKS.dueState("12: write(0)", () -> log.write(0));
        CHECKS.due("12: stateOf(0)", 3, () -> log.stateOf(0));
    }

    static void stateOfALostToken() {
        SharedLog log = Logs.withTail(1);
        log.fill(0);
        log.write(0);
        CHECKS.due("12: stateOf(0)", -1, () -> log.stateOf(0));
    }

    static void stateOfATokenWhosePositionIsJunkIsNotYetLost() {
        SharedLog log = Logs.withTail(1);
        log.fill(0);
        CHECKS.due("12: stateOf(0)", 0, () -> log.stateOf(0));
    }

    static void stateOfATokenCountsNoFilling() {
        SharedLog log = Logs.withTail(1);
        log.write(0);
        log.fill(0);
        CHECKS.due("12: stateOf(0)", 1, () -> log.stateOf(0));
    }

    static void stateOfASealedTokenIsNotLost() {
        SharedLog log = Logs.withTail(2);
        log.write(1);
        log.seal();
        CHECKS.due("12: stateOf(0)", 0, () -> log.stateOf(0));
        CHECKS.due("12: stateOf(1)", 1, () -> log.stateOf(1));
    }

    static void stateOfATokenBelow0() {
        SharedLog log = Logs.withTail(2);
        for (int token : new int[] {-1, -2, Logs.FAR_BELOW}) {
            CHECKS.dueOutOfBounds("12: stateOf(" + token + ")", () -> log.stateOf(token));
        }
    }

    static void stateOfATokenTooLarge() {
        SharedLog log = Logs.withTail(2);
        for (int token : new int[] {2, 3, 149, 150, Logs.FAR_ABOVE}) {
            CHECKS.dueOutOfBounds("12: stateOf(" + token + ")", () -> log.stateOf(token));
        }
    }

    static void stateOfANewLog() {
        SharedLog log = new SharedLog();
        CHECKS.dueOutOfBounds("12: stateOf(0)", () -> log.stateOf(0));
    }

    static void stateOfTheLastToken() {
        SharedLog log = Logs.allTokens();
        CHECKS.due("12: stateOf(149)", 0, () -> log.stateOf(149));
        CHECKS.dueOutOfBounds("12: stateOf(150)", () -> log.stateOf(150));
    }

    // ---- promise 13: pointer

    static void pointerOfTheFirstEntryOfAStream() {
        SharedLog log = new SharedLog();
        log.take(1, 1);
        log.take(2, 1);
        pointersDue("13", log, 0, 0, -1, -1, -1, -1);
        pointersDue("13", log, 1, 1, -1, -1, -1, -1);
    }

    static void pointerOfTheSecondToTheFifthEntry() {
        SharedLog log = Logs.withTail(5);
        pointersDue("13", log, 1, 0, 0, -1, -1, -1);
        pointersDue("13", log, 2, 0, 1, 0, -1, -1);
        pointersDue("13", log, 3, 0, 2, 1, 0, -1);
        pointersDue("13", log, 4, 0, 3, 2, 1, 0);
    }

    static void pointerOfTheSixthEntryHasForgottenTheFirst() {
        SharedLog log = Logs.withTail(6);
        pointersDue("13", log, 5, 0, 4, 3, 2, 1);
    }

    static void pointerOfAStreamThatTheEntryDoesNotHave() {
        SharedLog log = new SharedLog();
        log.take(15, 1);
        log.take(6, 1);
        pointersDue("13: not there", log, 1, 0, -1, -1, -1, -1);
        pointersDue("13: there", log, 1, 1, 0, -1, -1, -1);
        pointersDue("13: there", log, 1, 2, 0, -1, -1, -1);
        pointersDue("13: not there", log, 1, 3, -1, -1, -1, -1);
    }

    static void pointerOfTheFirstAndTheLastStream() {
        SharedLog log = new SharedLog();
        for (int token = 0; token < 6; token++) {
            log.take(9, 1);
        }
        pointersDue("13: the first", log, 5, 0, 4, 3, 2, 1);
        pointersDue("13: the last", log, 5, 3, 4, 3, 2, 1);
    }

    static void pointerSkipsTheOtherStreams() {
        SharedLog log = new SharedLog();
        for (int token = 0; token < 12; token++) {
            log.take(1 << token % 4, 1);
        }
        log.take(15, 1);
        pointersDue("13", log, 12, 0, 8, 4, 0, -1);
        pointersDue("13", log, 12, 3, 11, 7, 3, -1);
    }

    static void pointerToAPositionThatIsJunkOrEmpty() {
        SharedLog log = Logs.withTail(3);
        log.fill(1);
        pointersDue("13", log, 2, 0, 1, 0, -1, -1);
    }

    static void pointerStaysWhatItWas() {
        SharedLog log = Logs.withTail(3);
        log.take(1, 1);
        log.seal();
        log.take(1, 1);
        log.lose();
        pointersDue("13", log, 2, 0, 1, 0, -1, -1);
        pointersDue("13: of the next epoch", log, 4, 0, -1, -1, -1, -1);
    }

    static void pointerOfATokenBelow0() {
        SharedLog log = Logs.withTail(2);
        for (int token : new int[] {-1, -2, Logs.FAR_BELOW}) {
            CHECKS.dueOutOfBounds("13: pointer(" + token + ", 0, 0)", () -> log.pointer(token, 0, 0));
        }
    }

    static void pointerOfATokenTooLarge() {
        SharedLog log = Logs.withTail(2);
        for (int token : new int[] {2, 3, 149, 150, Logs.FAR_ABOVE}) {
            CHECKS.dueOutOfBounds("13: pointer(" + token + ", 0, 0)", () -> log.pointer(token, 0, 0));
        }
    }

    static void pointerOfAStreamBelow0() {
        SharedLog log = Logs.withTail(6);
        for (int stream : new int[] {-1, -32, Logs.FAR_BELOW}) {
            CHECKS.dueOutOfBounds("13: pointer(5, " + stream + ", 0)", () -> log.pointer(5, stream, 0));
        }
        CHECKS.dueOutOfBounds("13: pointer(5, -1, 3)", () -> log.pointer(5, -1, 3));
    }

    static void pointerOfAStreamTooLarge() {
        SharedLog log = Logs.withTail(6);
        for (int stream : new int[] {4, 5, 32, 1 << 30, Logs.FAR_ABOVE}) {
            CHECKS.dueOutOfBounds("13: pointer(5, " + stream + ", 0)", () -> log.pointer(5, stream, 0));
        }
    }

    static void pointerOfANumberBelow0() {
        SharedLog log = new SharedLog();
        log.take(15, 1);
        log.take(15, 1);
        for (int number : new int[] {-1, -4, Logs.FAR_BELOW}) {
            CHECKS.dueOutOfBounds("13: pointer(1, 1, " + number + ")", () -> log.pointer(1, 1, number));
        }
    }

    static void pointerOfANumberTooLarge() {
        SharedLog log = Logs.withTail(6);
        CHECKS.due("13: the last number", 1, () -> log.pointer(5, 0, 3));
        for (int number : new int[] {4, 5, 15, Logs.FAR_ABOVE}) {
            CHECKS.dueOutOfBounds("13: pointer(5, 0, " + number + ")", () -> log.pointer(5, 0, number));
        }
    }

    static void pointerOfAWrongNumberOfAStreamThatTheEntryDoesNotHave() {
        SharedLog log = Logs.withTail(2);
        CHECKS.due("13: pointer(1, 3, 3)", -1, () -> log.pointer(1, 3, 3));
        CHECKS.dueOutOfBounds("13: pointer(1, 3, 4)", () -> log.pointer(1, 3, 4));
        CHECKS.dueOutOfBounds("13: pointer(1, 3, -1)", () -> log.pointer(1, 3, -1));
    }

    static void pointerOfANewLog() {
        SharedLog log = new SharedLog();
        CHECKS.dueOutOfBounds("13: pointer(0, 0, 0)", () -> log.pointer(0, 0, 0));
    }

    static void pointerOfTheLastToken() {
        SharedLog log = Logs.allTokens();
        pointersDue("13", log, 149, 0, 73, 72, 71, 70);
        CHECKS.dueOutOfBounds("13: pointer(150, 0, 0)", () -> log.pointer(150, 0, 0));
    }

    static void pointerToTheLastPositionButOne() {
        SharedLog log = Logs.withTail(120);
        pointersDue("13", log, 119, 0, 118, 117, 116, 115);
    }

    // ---- promise 14: cellAt

    static void cellAtTheFirstAndTheLastCell() {
        SharedLog log = Logs.withTail(120);
        Logs.writeWhole(log, 0);
        Logs.writeWhole(log, 119);
        CHECKS.due("14: cellAt(0, 0)", 0, () -> log.cellAt(0, 0));
        CHECKS.due("14: cellAt(2, 0)", 0, () -> log.cellAt(2, 0));
        CHECKS.due("14: cellAt(0, 119)", 119, () -> log.cellAt(0, 119));
        CHECKS.due("14: cellAt(2, 119)", 119, () -> log.cellAt(2, 119));
    }

    static void cellAtAReplicaBelow0() {
        SharedLog log = Logs.withTail(1);
        for (int replica : new int[] {-1, Logs.FAR_BELOW}) {
            CHECKS.dueOutOfBounds("14: cellAt(" + replica + ", 0)", () -> log.cellAt(replica, 0));
            CHECKS.dueOutOfBounds("14: cellAt(" + replica + ", 119)", () -> log.cellAt(replica, 119));
        }
    }

    static void cellAtAReplicaTooLarge() {
        SharedLog log = Logs.withTail(1);
        for (int replica : new int[] {3, 4, 1 << 29, Logs.FAR_ABOVE}) {
            CHECKS.dueOutOfBounds("14: cellAt(" + replica + ", 0)", () -> log.cellAt(replica, 0));
        }
    }

    static void cellAtAPositionBelow0() {
        SharedLog log = Logs.withTail(1);
        for (int position : new int[] {-1, -120, Logs.FAR_BELOW}) {
            for (int replica = 0; replica < 3; replica++) {
                int r = replica;
                CHECKS.dueOutOfBounds("14: cellAt(" + r + ", " + position + ")", () -> log.cellAt(r, position));
            }
        }
    }

    static void cellAtAPositionTooLarge() {
        SharedLog log = Logs.withTail(120);
        for (int position : new int[] {120, 121, Logs.FAR_ABOVE}) {
            for (int replica = 0; replica < 3; replica++) {
                int r = replica;
                CHECKS.dueOutOfBounds("14: cellAt(" + r + ", " + position + ")", () -> log.cellAt(r, position));
            }
        }
    }

    static void cellAtAPositionBehindTheTail() {
        SharedLog log = Logs.withTail(1);
        CHECKS.due("14: at the tail", -2, () -> log.cellAt(0, 1));
        CHECKS.due("14: far behind", -2, () -> log.cellAt(2, 119));
    }

    static void cellAtJunk() {
        SharedLog log = Logs.withTail(1);
        log.fill(0);
        for (int replica = 0; replica < 3; replica++) {
            int r = replica;
            CHECKS.due("14: cellAt(" + r + ", 0)", -1, () -> log.cellAt(r, 0));
        }
    }

    static void cellAtTheTokenNotThePosition() {
        SharedLog log = Logs.allTokens();
        log.write(149);
        CHECKS.due("14: cellAt(0, 74)", 149, () -> log.cellAt(0, 74));
    }

    static void cellAtAnEntryStaysForEver() {
        SharedLog log = Logs.withTail(1);
        log.write(0);
        log.lose();
        log.seal();
        log.fill(0);
        log.take(1, 1);
        log.write(1);
        for (int replica = 0; replica < 3; replica++) {
            int r = replica;
            CHECKS.due("14: cellAt(" + r + ", 0)", 0, () -> log.cellAt(r, 0));
        }
    }

    static void cellAtJunkStaysForEver() {
        SharedLog log = Logs.withTail(1);
        log.fill(0);
        log.write(0);
        log.lose();
        log.seal();
        CHECKS.due("14: the junk is ahead of the tail", 1, () -> log.take(1, 1));
        log.write(1);
        CHECKS.due("14: cellAt(0, 0)", -1, () -> log.cellAt(0, 0));
        CHECKS.due("14: cellAt(0, 1)", 1, () -> log.cellAt(0, 1));
    }

    // ---- promise 15: known

    static void knownOfANewLog() {
        CHECKS.due("15: known()", 0, new SharedLog()::known);
    }

    static void knownOfAPositionWithEachNumberOfCells() {
        SharedLog log = Logs.withTail(1);
        for (int replicas = 0; replicas < 3; replicas++) {
            CHECKS.due("15: known()", 0, log::known);
            log.write(0);
        }
        CHECKS.due("15: known()", 1, log::known);
    }

    static void knownOfJunk() {
        SharedLog log = Logs.withTail(2);
        log.fill(0);
        CHECKS.due("15: known()", 1, log::known);
    }

    static void knownOfAFilledEntry() {
        SharedLog log = Logs.withTail(2);
        log.write(0);
        log.fill(0);
        CHECKS.due("15: known()", 1, log::known);
    }

    static void knownEndsAtAHole() {
        SharedLog log = Logs.withTail(4);
        Logs.writeWhole(log, 0);
        Logs.writeWhole(log, 1);
        Logs.writeWhole(log, 3);
        CHECKS.due("15: with a hole at 2", 2, log::known);
        log.write(2);
        CHECKS.due("15: half written", 2, log::known);
        log.fill(2);
        CHECKS.due("15: filled", 4, log::known);
    }

    static void knownOfAFullLog() {
        SharedLog log = Logs.withTail(120);
        for (int position = 0; position < 119; position++) {
            log.fill(position);
        }
        CHECKS.due("15: all but the last", 119, log::known);
        log.fill(119);
        CHECKS.due("15: all", 120, log::known);
    }

    static void knownStaysWithALossAndASeal() {
        SharedLog log = Logs.withTail(3);
        Logs.writeWhole(log, 0);
        log.lose();
        CHECKS.due("15: lost", 1, log::known);
        log.seal();
        CHECKS.due("15: sealed", 1, log::known);
    }

    static void knownIsNotTheTail() {
        SharedLog log = Logs.withTail(3);
        log.write(2);
        log.seal();
        CHECKS.due("15: tail()", 3, log::tail);
        CHECKS.due("15: known()", 0, log::known);
    }
}
