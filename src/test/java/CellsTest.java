/** Promises 6 and 7: write and fill. */
public final class CellsTest {
    private static final Checks CHECKS = new Checks();

    public static void main(String[] args) {
        writeStepsThroughTheReplicas();
        writeGoesOnAfterFill();
        writeMeetsJunk();
        writeOfASealedEpoch();
        writeRefusesTokens();
        fillAHole();
        fillAHalfWrittenPosition();
        fillAfterASeal();
        fillRefuses();
        CHECKS.end();
    }

    private static void cellsDue(String what, SharedLog log, int position, int... want) {
        for (int replica = 0; replica < 3; replica++) {
            int r = replica;
            CHECKS.due(what + ": cellAt(" + r + ", " + position + ")", want[r], () -> log.cellAt(r, position));
        }
    }

    private static void writeStepsThroughTheReplicas() {
        SharedLog log = new SharedLog();
        log.take(1, 5);
        log.take(1, 6);
        CHECKS.due("6: step 1", 1, () -> log.write(1));
        cellsDue("6: step 1", log, 1, 1, -2, -2);
        CHECKS.due("6: step 2", 2, () -> log.write(1));
        cellsDue("6: step 2", log, 1, 1, 1, -2);
        CHECKS.due("6: step 3", 3, () -> log.write(1));
        cellsDue("6: step 3", log, 1, 1, 1, 1);
        cellsDue("6: the other position", log, 0, -2, -2, -2);
        CHECKS.dueState("6: step 4", () -> log.write(1));
        CHECKS.due("6: state", 3, () -> log.stateOf(1));
        CHECKS.due("6: the first token", 1, () -> log.write(0));

        SharedLog full = Logs.handedOut();
        CHECKS.due("6: the last position", 1, () -> full.write(119));
        cellsDue("6: the last position", full, 119, 119, -2, -2);
    }

    private static void writeGoesOnAfterFill() {
        SharedLog log = new SharedLog();
        log.take(1, 5);
        log.write(0);
        log.fill(0);
        CHECKS.due("6: fill is no step", 1, () -> log.stateOf(0));
        CHECKS.due("6: a cell that holds the entry", 2, () -> log.write(0));
        CHECKS.due("6: the last one", 3, () -> log.write(0));
        cellsDue("6: all cells", log, 0, 0, 0, 0);
        CHECKS.dueState("6: all are written", () -> log.write(0));
    }

    private static void writeMeetsJunk() {
        SharedLog log = new SharedLog();
        log.take(1, 5);
        log.fill(0);
        CHECKS.due("6: the token is not lost yet", 0, () -> log.stateOf(0));
        CHECKS.due("6: junk", -1, () -> log.write(0));
        CHECKS.due("6: lost", -1, () -> log.stateOf(0));
        CHECKS.dueState("6: a lost token", () -> log.write(0));
        cellsDue("6: junk stays", log, 0, -1, -1, -1);
    }

    private static void writeOfASealedEpoch() {
        SharedLog log = new SharedLog();
        log.take(1, 5);
        log.take(1, 6);
        log.write(0);
        log.seal();
        log.take(1, 7);
        CHECKS.dueState("6: the written token", () -> log.write(0));
        CHECKS.dueState("6: the unwritten token", () -> log.write(1));
        CHECKS.due("6: the states stay", 1, () -> log.stateOf(0));
        CHECKS.due("6: the states stay", 0, () -> log.stateOf(1));
        cellsDue("6: nothing is written", log, 1, -2, -2, -2);
        CHECKS.due("6: the token of this epoch", 1, () -> log.write(2));
        cellsDue("6: its cells", log, 1, 2, -2, -2);
        log.lose();
        CHECKS.due("6: the epoch is not sealed by losing", 2, () -> log.write(2));
    }

    private static void writeRefusesTokens() {
        SharedLog log = new SharedLog();
        for (int token : new int[] {Logs.FAR_BELOW, -2, -1, 0, 1, 149, 150, Logs.FAR_ABOVE}) {
            CHECKS.dueOutOfBounds("6: write(" + token + ") of none", () -> log.write(token));
        }
        log.take(1, 5);
        CHECKS.dueOutOfBounds("6: write(1) of one", () -> log.write(1));
        SharedLog spent = Logs.allTokens();
        CHECKS.due("6: write(149) of 150", 1, () -> spent.write(149));
        CHECKS.dueOutOfBounds("6: write(150) of 150", () -> spent.write(150));
    }

    private static void fillAHole() {
        SharedLog log = new SharedLog();
        log.take(1, 5);
        log.take(1, 6);
        CHECKS.due("7: a hole", 0, () -> Checks.yes(log.fill(1)));
        cellsDue("7: junk", log, 1, -1, -1, -1);
        cellsDue("7: the other position", log, 0, -2, -2, -2);
        CHECKS.due("7: known", 0, log::known);
        CHECKS.due("7: the first position", 0, () -> Checks.yes(log.fill(0)));
        CHECKS.due("7: known", 2, log::known);

        SharedLog full = Logs.handedOut();
        CHECKS.due("7: the last position", 0, () -> Checks.yes(full.fill(119)));
        cellsDue("7: the last position", full, 119, -1, -1, -1);
    }

    private static void fillAHalfWrittenPosition() {
        SharedLog log = new SharedLog();
        log.take(1, 5);
        log.take(1, 6);
        log.write(0);
        log.write(1);
        log.write(1);
        CHECKS.due("7: one replica has it", 1, () -> Checks.yes(log.fill(0)));
        cellsDue("7: one replica had it", log, 0, 0, 0, 0);
        CHECKS.due("7: two replicas have it", 1, () -> Checks.yes(log.fill(1)));
        cellsDue("7: two replicas had it", log, 1, 1, 1, 1);
        CHECKS.due("7: the state stays", 1, () -> log.stateOf(0));
        CHECKS.due("7: the state stays", 2, () -> log.stateOf(1));
        CHECKS.due("7: the value counts", 11, () -> log.value(0, 2));
    }

    private static void fillAfterASeal() {
        SharedLog log = new SharedLog();
        log.take(1, 5);
        log.take(1, 6);
        log.write(1);
        log.seal();
        CHECKS.due("7: a hole of a sealed epoch", 0, () -> Checks.yes(log.fill(0)));
        CHECKS.due("7: an entry of a sealed epoch", 1, () -> Checks.yes(log.fill(1)));
        cellsDue("7: the entry", log, 1, 1, 1, 1);
        CHECKS.dueState("7: behind the tail", () -> Checks.yes(log.fill(2)));
    }

    private static void fillRefuses() {
        SharedLog log = new SharedLog();
        for (int position : new int[] {Logs.FAR_BELOW, -1, 120, Logs.FAR_ABOVE}) {
            CHECKS.dueOutOfBounds("7: fill(" + position + ")", () -> Checks.yes(log.fill(position)));
        }
        CHECKS.dueState("7: fill(0) at the tail 0", () -> Checks.yes(log.fill(0)));
        CHECKS.dueState("7: fill(119) at the tail 0", () -> Checks.yes(log.fill(119)));
        Logs.append(log, 1, 5);
        CHECKS.dueState("7: a complete entry", () -> Checks.yes(log.fill(0)));
        CHECKS.dueState("7: at the tail", () -> Checks.yes(log.fill(1)));
        Logs.junk(log, 1);
        CHECKS.dueState("7: junk", () -> Checks.yes(log.fill(1)));
        log.take(1, 6);
        log.lose();
        CHECKS.dueState("7: no sequencer", () -> Checks.yes(log.fill(2)));
        CHECKS.dueOutOfBounds("7: fill(120) without a sequencer", () -> Checks.yes(log.fill(120)));
        cellsDue("7: a refused fill changes nothing", log, 2, -2, -2, -2);
    }
}
