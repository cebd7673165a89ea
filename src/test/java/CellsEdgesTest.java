/** The boundary cases of the promises 6 and 7, a case for each. */
public final class CellsEdgesTest {
    private static final Checks CHECKS = new Checks();

    public static void main(String[] args) {
        CHECKS.runCases(CellsEdgesTest.class);
        CHECKS.end();
    }

    private static void cellsDue(String what, SharedLog log, int position, int... want) {
        for (int replica = 0; replica < 3; replica++) {
            int r = replica;
            CHECKS.due(what + ": cellAt(" + r + ", " + position + ")", want[r], () -> log.cellAt(r, position));
        }
    }

    private static void writeDue(String what, SharedLog log, int token, int want) {
        CHECKS.due(what + ": write(" + token + ")", want, () -> log.write(token));
    }

    private static void writeRefused(String what, SharedLog log, int token) {
        CHECKS.dueState(what + ": write(" + token + ")", () -> log.write(token));
    }

    private static void fillDue(String what, SharedLog log, int position, boolean entry) {
        CHECKS.due(what + ": fill(" + position + ")", Checks.yes(entry), () -> Checks.yes(log.fill(position)));
    }

    private static void fillRefused(String what, SharedLog log, int position) {
        CHECKS.dueState(what + ": fill(" + position + ")", () -> Checks.yes(log.fill(position)));
    }

    private static void stateDue(SharedLog log, int token, int want) {
        CHECKS.due("stateOf(" + token + ")", want, () -> log.stateOf(token));
    }

    /** A log whose only token has written to some replicas. */
    private static SharedLog writtenTo(int replicas) {
        SharedLog log = Logs.withTail(1);
        for (int replica = 0; replica < replicas; replica++) {
            log.write(0);
        }
        return log;
    }

    // ---- promise 6: write

    static void writeOfTheFirstReplica() {
        SharedLog log = writtenTo(0);
        writeDue("6", log, 0, 1);
        cellsDue("6", log, 0, 0, -2, -2);
    }

    static void writeOfTheSecondReplica() {
        SharedLog log = writtenTo(1);
        writeDue("6", log, 0, 2);
        cellsDue("6", log, 0, 0, 0, -2);
    }

    static void writeOfTheLastReplica() {
        SharedLog log = writtenTo(2);
        writeDue("6", log, 0, 3);
        cellsDue("6", log, 0, 0, 0, 0);
    }

    static void writeBehindTheLastReplica() {
        SharedLog log = writtenTo(3);
        writeRefused("6", log, 0);
        stateDue(log, 0, 3);
        cellsDue("6", log, 0, 0, 0, 0);
    }

    static void writeOfATokenBelow0() {
        SharedLog log = writtenTo(0);
        for (int token : new int[] {-1, -2, Logs.FAR_BELOW}) {
            CHECKS.dueOutOfBounds("6: write(" + token + ")", () -> log.write(token));
        }
    }

    static void writeOfTheTokenThatComesNext() {
        SharedLog log = writtenTo(0);
        CHECKS.dueOutOfBounds("6: write(1)", () -> log.write(1));
        log.take(1, 1);
        writeDue("6: when it is there", log, 1, 1);
    }

    static void writeOfATokenTooLarge() {
        SharedLog log = writtenTo(0);
        for (int token : new int[] {149, 150, 151, Logs.FAR_ABOVE}) {
            CHECKS.dueOutOfBounds("6: write(" + token + ")", () -> log.write(token));
        }
    }

    static void writeOfANewLog() {
        SharedLog log = new SharedLog();
        CHECKS.dueOutOfBounds("6: write(0)", () -> log.write(0));
    }

    static void writeOfTheLastToken() {
        SharedLog log = Logs.allTokens();
        writeDue("6", log, 149, 1);
        cellsDue("6", log, 74, 149, -2, -2);
        CHECKS.dueOutOfBounds("6: write(150)", () -> log.write(150));
    }

    static void writeOfNoTokenOfASealedAndALostLog() {
        SharedLog log = writtenTo(0);
        log.seal();
        log.lose();
        CHECKS.dueOutOfBounds("6: write(1)", () -> log.write(1));
        CHECKS.dueOutOfBounds("6: write(-1)", () -> log.write(-1));
    }

    static void writeAtTheLastPosition() {
        SharedLog log = Logs.withTail(120);
        writeDue("6", log, 119, 1);
        writeDue("6", log, 119, 2);
        writeDue("6", log, 119, 3);
        cellsDue("6", log, 119, 119, 119, 119);
        cellsDue("6: the one ahead", log, 118, -2, -2, -2);
    }

    static void writeOverItsOwnEntryFromTheFirstStep() {
        SharedLog log = writtenTo(1);
        log.fill(0);
        writeDue("6", log, 0, 2);
        writeDue("6", log, 0, 3);
        writeRefused("6", log, 0);
        cellsDue("6", log, 0, 0, 0, 0);
    }

    static void writeOverItsOwnEntryFromTheSecondStep() {
        SharedLog log = writtenTo(2);
        log.fill(0);
        writeDue("6", log, 0, 3);
        writeRefused("6", log, 0);
    }

    static void writeOnJunk() {
        SharedLog log = writtenTo(0);
        log.fill(0);
        stateDue(log, 0, 0);
        writeDue("6", log, 0, -1);
        stateDue(log, 0, -1);
        cellsDue("6", log, 0, -1, -1, -1);
    }

    static void writeOfALostToken() {
        SharedLog log = writtenTo(0);
        log.fill(0);
        log.write(0);
        writeRefused("6", log, 0);
        stateDue(log, 0, -1);
    }

    static void writeOfALostTokenOfASealedEpoch() {
        SharedLog log = writtenTo(0);
        log.fill(0);
        log.write(0);
        log.seal();
        writeRefused("6", log, 0);
        stateDue(log, 0, -1);
    }

    static void writeOfEachStateOfASealedEpoch() {
        for (int state = 0; state <= 3; state++) {
            SharedLog log = writtenTo(state);
            log.seal();
            writeRefused("6: in the state " + state, log, 0);
            stateDue(log, 0, state);
            CHECKS.due("6: the next cell", state == 3 ? 0 : -2, () -> log.cellAt(2, 0));
        }
    }

    static void writeOnJunkOfASealedEpochLosesNothing() {
        SharedLog log = Logs.withTail(2);
        log.write(1);
        log.seal();
        log.fill(0);
        writeRefused("6", log, 0);
        stateDue(log, 0, 0);
    }

    static void writeOfASealedEpochOnItsOwnEntry() {
        SharedLog log = writtenTo(1);
        log.seal();
        log.fill(0);
        writeRefused("6", log, 0);
        stateDue(log, 0, 1);
    }

    static void writeOfATokenTwoEpochsAgo() {
        SharedLog log = writtenTo(0);
        log.seal();
        log.seal();
        writeRefused("6", log, 0);
    }

    static void writeOfASealedEpochAtAPositionThatIsHandedOutAgain() {
        SharedLog log = writtenTo(0);
        log.seal();
        log.take(1, 1);
        CHECKS.due("6: positionOf(1)", 0, () -> log.positionOf(1));
        writeRefused("6: the old one", log, 0);
        writeDue("6: the new one", log, 1, 1);
        writeRefused("6: the old one", log, 0);
        cellsDue("6", log, 0, 1, -2, -2);
    }

    static void writeOfTheEpochBehindASeal() {
        SharedLog log = new SharedLog();
        log.seal();
        log.take(1, 1);
        writeDue("6", log, 0, 1);
    }

    static void writeWithoutASequencer() {
        SharedLog log = writtenTo(0);
        log.lose();
        writeDue("6", log, 0, 1);
        writeDue("6", log, 0, 2);
        writeDue("6", log, 0, 3);
        writeRefused("6", log, 0);
    }

    static void writeOnJunkWithoutASequencer() {
        SharedLog log = writtenTo(0);
        log.fill(0);
        log.lose();
        writeDue("6", log, 0, -1);
    }

    static void writeOfTwoTokensInTurns() {
        SharedLog log = Logs.withTail(2);
        writeDue("6", log, 1, 1);
        writeDue("6", log, 0, 1);
        writeDue("6", log, 1, 2);
        cellsDue("6", log, 0, 0, -2, -2);
        cellsDue("6", log, 1, 1, 1, -2);
        stateDue(log, 0, 1);
        stateDue(log, 1, 2);
    }

    static void writeMovesNoTail() {
        SharedLog log = Logs.withTail(2);
        log.write(0);
        CHECKS.due("6: tail()", 2, log::tail);
        CHECKS.due("6: epoch()", 0, log::epoch);
        CHECKS.due("6: tokens()", 2, log::tokens);
    }

    // ---- promise 7: fill

    static void fillOfTheFirstPosition() {
        SharedLog log = Logs.withTail(2);
        fillDue("7", log, 0, false);
        cellsDue("7", log, 0, -1, -1, -1);
        cellsDue("7: the one behind", log, 1, -2, -2, -2);
    }

    static void fillOfTheLastPosition() {
        SharedLog log = Logs.withTail(120);
        fillDue("7", log, 119, false);
        cellsDue("7", log, 119, -1, -1, -1);
        cellsDue("7: the one ahead", log, 118, -2, -2, -2);
    }

    static void fillOfAPositionBelow0() {
        SharedLog log = Logs.withTail(2);
        for (int position : new int[] {-1, Logs.FAR_BELOW}) {
            CHECKS.dueOutOfBounds("7: fill(" + position + ")", () -> Checks.yes(log.fill(position)));
        }
    }

    static void fillOfAPositionTooLarge() {
        SharedLog log = Logs.withTail(120);
        for (int position : new int[] {120, 121, Logs.FAR_ABOVE}) {
            CHECKS.dueOutOfBounds("7: fill(" + position + ")", () -> Checks.yes(log.fill(position)));
        }
    }

    static void fillOfANewLog() {
        SharedLog log = new SharedLog();
        fillRefused("7", log, 0);
        fillRefused("7", log, 119);
    }

    static void fillRightAheadOfTheTail() {
        SharedLog log = Logs.withTail(5);
        fillDue("7", log, 4, false);
    }

    static void fillAtTheTail() {
        SharedLog log = Logs.withTail(5);
        fillRefused("7", log, 5);
        cellsDue("7", log, 5, -2, -2, -2);
    }

    static void fillBehindTheTail() {
        SharedLog log = Logs.withTail(5);
        fillRefused("7", log, 6);
        fillRefused("7", log, 119);
    }

    static void fillAtTheTail119() {
        SharedLog log = Logs.withTail(119);
        fillRefused("7", log, 119);
    }

    static void fillOfAHoleThatIsBehindTheTailOfASeal() {
        SharedLog log = Logs.withTail(5);
        log.write(1);
        log.seal();
        fillRefused("7: the tail is 2", log, 2);
        fillRefused("7: it was handed out", log, 4);
        fillDue("7: ahead of the tail", log, 0, false);
    }

    static void fillWithNoReplicaWritten() {
        SharedLog log = writtenTo(0);
        fillDue("7", log, 0, false);
        cellsDue("7", log, 0, -1, -1, -1);
    }

    static void fillWithOneReplicaWritten() {
        SharedLog log = writtenTo(1);
        fillDue("7", log, 0, true);
        cellsDue("7", log, 0, 0, 0, 0);
        stateDue(log, 0, 1);
    }

    static void fillWithTwoReplicasWritten() {
        SharedLog log = writtenTo(2);
        fillDue("7", log, 0, true);
        cellsDue("7", log, 0, 0, 0, 0);
        stateDue(log, 0, 2);
    }

    static void fillOfAPositionThatIsWrittenWhole() {
        SharedLog log = writtenTo(3);
        fillRefused("7", log, 0);
        cellsDue("7", log, 0, 0, 0, 0);
    }

    static void fillOfAPositionThatWasFilledWithItsEntry() {
        SharedLog log = writtenTo(1);
        log.fill(0);
        fillRefused("7", log, 0);
        cellsDue("7", log, 0, 0, 0, 0);
    }

    static void fillOfJunk() {
        SharedLog log = writtenTo(0);
        log.fill(0);
        fillRefused("7", log, 0);
        cellsDue("7", log, 0, -1, -1, -1);
    }

    static void fillOfJunkWhoseTokenIsLost() {
        SharedLog log = writtenTo(0);
        log.fill(0);
        log.write(0);
        fillRefused("7", log, 0);
    }

    static void fillWithoutASequencer() {
        for (int state = 0; state <= 3; state++) {
            SharedLog log = writtenTo(state);
            log.lose();
            fillRefused("7: in the state " + state, log, 0);
            CHECKS.due("7: the last cell", state == 3 ? 0 : -2, () -> log.cellAt(2, 0));
        }
    }

    static void fillNamesThePositionFirst() {
        SharedLog log = writtenTo(0);
        log.lose();
        CHECKS.dueOutOfBounds("7: fill(120)", () -> Checks.yes(log.fill(120)));
        CHECKS.dueOutOfBounds("7: fill(-1)", () -> Checks.yes(log.fill(-1)));
        fillRefused("7", log, 119);
    }

    static void fillOfTheNextSequencer() {
        SharedLog log = Logs.withTail(3);
        log.write(2);
        log.lose();
        fillRefused("7: without a sequencer", log, 1);
        log.seal();
        fillDue("7: with the next", log, 1, false);
    }

    static void fillOfAnEntryOfASealedEpoch() {
        SharedLog log = writtenTo(1);
        log.seal();
        fillDue("7", log, 0, true);
        cellsDue("7", log, 0, 0, 0, 0);
        stateDue(log, 0, 1);
    }

    static void fillHoldsAnEntryWhoseNumberIsNotItsPosition() {
        SharedLog log = writtenTo(0);
        log.seal();
        log.take(1, 1);
        log.write(1);
        fillDue("7", log, 0, true);
        cellsDue("7", log, 0, 1, 1, 1);
    }

    static void fillMovesNoTail() {
        SharedLog log = Logs.withTail(3);
        log.fill(2);
        CHECKS.due("7: tail()", 3, log::tail);
        CHECKS.due("7: tokens()", 3, log::tokens);
        CHECKS.due("7: epoch()", 0, log::epoch);
    }

    static void fillLeavesThePointersOfTheSequencer() {
        SharedLog log = Logs.withTail(1);
        log.fill(0);
        log.take(1, 1);
        CHECKS.due("7: the sequencer knows the position still", 0, () -> log.pointer(1, 0, 0));
    }
}
