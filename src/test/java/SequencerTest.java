/** Promises 1 to 5: a new object, take, takeIf, lose, seal. */
public final class SequencerTest {
    private static final Checks CHECKS = new Checks();

    public static void main(String[] args) {
        newObject();
        takeHandsOut();
        takeRefusesArguments();
        takeRefusesStates();
        takeIfHandsOut();
        takeIfRefusesArguments();
        takeIfRefusesStates();
        loseStopsTheSequencer();
        sealBeginsAnEpoch();
        sealLooksAtEveryPosition();
        sealLearnsTheStreams();
        CHECKS.end();
    }

    private static void newObject() {
        SharedLog log = new SharedLog();
        CHECKS.due("1: epoch", 0, log::epoch);
        CHECKS.due("1: tail", 0, log::tail);
        CHECKS.due("1: tokens", 0, log::tokens);
        CHECKS.due("1: known", 0, log::known);
        for (int replica = 0; replica < 3; replica++) {
            for (int position = 0; position < 120; position++) {
                int r = replica;
                int p = position;
                CHECKS.due("1: cellAt(" + r + ", " + p + ")", -2, () -> log.cellAt(r, p));
            }
        }
        SharedLog other = new SharedLog();
        Logs.append(log, 1, 5);
        CHECKS.due("1: another object has no tokens", 0, other::tokens);
        CHECKS.due("1: another object has no cells", -2, () -> other.cellAt(0, 0));
    }

    private static void takeHandsOut() {
        SharedLog log = new SharedLog();
        CHECKS.due("2: take(1, -1000)", 0, () -> log.take(1, -1000));
        CHECKS.due("2: take(15, 1000)", 1, () -> log.take(15, 1000));
        CHECKS.due("2: take(8, 0)", 2, () -> log.take(8, 0));
        CHECKS.due("2: tail", 3, log::tail);
        CHECKS.due("2: tokens", 3, log::tokens);
        CHECKS.due("2: position of 2", 2, () -> log.positionOf(2));
        CHECKS.due("2: state of 2", 0, () -> log.stateOf(2));
        CHECKS.due("2: nothing is written", -2, () -> log.cellAt(0, 0));
        Logs.writeWhole(log, 0);
        Logs.writeWhole(log, 1);
        Logs.writeWhole(log, 2);
        CHECKS.due("2: the amounts of the stream 0", 0, () -> log.value(0, 3));
        CHECKS.due("2: the least amount", -1000, () -> log.value(0, 1));
        CHECKS.due("2: the greatest amount", 1000, () -> log.value(3, 3));
    }

    private static void takeRefusesArguments() {
        SharedLog log = new SharedLog();
        for (int streams : new int[] {Logs.FAR_BELOW, -1, 0, 16, 17, Logs.FAR_ABOVE}) {
            CHECKS.dueArgument("2: take(" + streams + ", 0)", () -> log.take(streams, 0));
        }
        for (int amount : new int[] {Logs.FAR_BELOW, -1001, 1001, Logs.FAR_ABOVE}) {
            CHECKS.dueArgument("2: take(1, " + amount + ")", () -> log.take(1, amount));
        }
        CHECKS.due("2: a refused take hands out nothing", 0, log::tokens);
        CHECKS.due("2: a refused take leaves the tail", 0, log::tail);
    }

    private static void takeRefusesStates() {
        SharedLog full = Logs.handedOut();
        CHECKS.due("2: tail of a full log", 120, full::tail);
        CHECKS.due("2: tokens of a full log", 120, full::tokens);
        CHECKS.dueState("2: take on a full log", () -> full.take(1, 0));
        CHECKS.dueArgument("2: take(0, 0) on a full log", () -> full.take(0, 0));
        CHECKS.due("2: position of the last token", 119, () -> full.positionOf(119));

        SharedLog spent = Logs.allTokens();
        CHECKS.due("2: 150 tokens", 150, spent::tokens);
        CHECKS.due("2: tail with 150 tokens", 75, spent::tail);
        CHECKS.dueState("2: take with 150 tokens", () -> spent.take(1, 0));
        CHECKS.dueArgument("2: take(1, 1001) with 150 tokens", () -> spent.take(1, 1001));
        CHECKS.due("2: position of the token 149", 74, () -> spent.positionOf(149));

        SharedLog lost = new SharedLog();
        lost.lose();
        CHECKS.dueState("2: take without a sequencer", () -> lost.take(1, 0));
        CHECKS.dueArgument("2: take(16, 0) without a sequencer", () -> lost.take(16, 0));
        lost.seal();
        CHECKS.due("2: take behind the seal", 0, () -> lost.take(1, 0));
    }

    private static void takeIfHandsOut() {
        SharedLog log = new SharedLog();
        CHECKS.due("3: takeIf(1, -1000, 1, 0)", 0, () -> log.takeIf(1, -1000, 1, 0));
        CHECKS.due("3: takeIf(15, 1000, 15, 1)", 1, () -> log.takeIf(15, 1000, 15, 1));
        CHECKS.due("3: takeIf(4, 7, 8, 0)", 2, () -> log.takeIf(4, 7, 8, 0));
        CHECKS.due("3: tail", 3, log::tail);
        CHECKS.due("3: tokens", 3, log::tokens);
        CHECKS.due("3: position of 2", 2, () -> log.positionOf(2));
        CHECKS.due("3: pointer of 2", 1, () -> log.pointer(2, 2, 0));
        CHECKS.due("3: a stream that was only read has no pointer", -1, () -> log.pointer(2, 3, 0));
        Logs.writeWhole(log, 0);
        Logs.writeWhole(log, 1);
        Logs.writeWhole(log, 2);
        CHECKS.due("3: 2 read what 1 changed", 0, () -> Checks.yes(log.takesEffect(2)));
        CHECKS.due("3: 1 read what is unchanged", 1, () -> Checks.yes(log.takesEffect(1)));
        CHECKS.due("3: value", 0, () -> log.value(0, 3));
    }

    private static void takeIfRefusesArguments() {
        SharedLog log = new SharedLog();
        log.take(1, 0);
        log.take(1, 0);
        for (int set : new int[] {Logs.FAR_BELOW, -1, 0, 16, 17, Logs.FAR_ABOVE}) {
            CHECKS.dueArgument("3: takeIf(" + set + ", 0, 1, 0)", () -> log.takeIf(set, 0, 1, 0));
            CHECKS.dueArgument("3: takeIf(1, 0, " + set + ", 0)", () -> log.takeIf(1, 0, set, 0));
        }
        for (int amount : new int[] {Logs.FAR_BELOW, -1001, 1001, Logs.FAR_ABOVE}) {
            CHECKS.dueArgument("3: takeIf(1, " + amount + ", 1, 0)", () -> log.takeIf(1, amount, 1, 0));
        }
        for (int version : new int[] {Logs.FAR_BELOW, -1, 3, Logs.FAR_ABOVE}) {
            CHECKS.dueArgument("3: takeIf(1, 0, 1, " + version + ")", () -> log.takeIf(1, 0, 1, version));
        }
        CHECKS.due("3: a refused takeIf hands out nothing", 2, log::tokens);
        CHECKS.due("3: a refused takeIf leaves the tail", 2, log::tail);
        CHECKS.due("3: the version is the tail", 2, () -> log.takeIf(1, 0, 1, 2));
    }

    private static void takeIfRefusesStates() {
        SharedLog full = Logs.handedOut();
        CHECKS.dueState("3: version 120 on a full log", () -> full.takeIf(1, 0, 1, 120));
        CHECKS.dueState("3: version 0 on a full log", () -> full.takeIf(1, 0, 1, 0));
        CHECKS.dueArgument("3: version 121 on a full log", () -> full.takeIf(1, 0, 1, 121));

        SharedLog spent = Logs.allTokens();
        CHECKS.dueState("3: version 75 with 150 tokens", () -> spent.takeIf(1, 0, 1, 75));
        CHECKS.dueArgument("3: version 76 with 150 tokens", () -> spent.takeIf(1, 0, 1, 76));

        SharedLog lost = new SharedLog();
        lost.take(1, 0);
        lost.lose();
        for (int version : new int[] {Logs.FAR_BELOW, -1, 0, 1, 2, Logs.FAR_ABOVE}) {
            CHECKS.dueState("3: version " + version + " without a sequencer", () -> lost.takeIf(1, 0, 1, version));
        }
        CHECKS.dueArgument("3: takeIf(0, ..) without a sequencer", () -> lost.takeIf(0, 0, 1, 0));
        CHECKS.dueArgument("3: amount 1001 without a sequencer", () -> lost.takeIf(1, 1001, 1, 0));
        CHECKS.dueArgument("3: read 16 without a sequencer", () -> lost.takeIf(1, 0, 16, 0));
    }

    private static void loseStopsTheSequencer() {
        SharedLog log = new SharedLog();
        log.take(1, 5);
        log.take(1, 6);
        CHECKS.due("4: lose", 2, log::lose);
        CHECKS.due("4: tail", -1, log::tail);
        CHECKS.due("4: epoch", 0, log::epoch);
        CHECKS.due("4: tokens", 2, log::tokens);
        CHECKS.dueState("4: lose again", log::lose);
        CHECKS.due("4: a token still writes", 1, () -> log.write(0));
        CHECKS.dueState("4: fill", () -> Checks.yes(log.fill(1)));
        CHECKS.due("4: seal", 1, log::seal);
        CHECKS.due("4: lose the next sequencer", 1, log::lose);
        CHECKS.due("4: lose at the tail 0", 0, new SharedLog()::lose);
        CHECKS.due("4: lose at the tail 120", 120, Logs.handedOut()::lose);
    }

    private static void sealBeginsAnEpoch() {
        SharedLog log = new SharedLog();
        CHECKS.due("5: seal an empty log", 0, log::seal);
        CHECKS.due("5: epoch", 1, log::epoch);
        log.take(1, 5);
        log.take(1, 6);
        log.take(1, 7);
        log.write(1);
        CHECKS.due("5: seal with the sequencer there", 2, log::seal);
        CHECKS.due("5: epoch", 2, log::epoch);
        CHECKS.due("5: tail", 2, log::tail);
        CHECKS.due("5: tokens stay", 3, log::tokens);
        CHECKS.dueState("5: a token of the sealed epoch", () -> log.write(1));
        CHECKS.due("5: it is not lost by that", 1, () -> log.stateOf(1));
        CHECKS.due("5: the position 2 is handed out again", 3, () -> log.take(2, 8));
        CHECKS.due("5: position of 2", 2, () -> log.positionOf(2));
        CHECKS.due("5: position of 3", 2, () -> log.positionOf(3));
        CHECKS.due("5: the hole is filled with junk", 0, () -> Checks.yes(log.fill(0)));
        CHECKS.due("5: the half written one with its entry", 1, () -> Checks.yes(log.fill(1)));
        log.lose();
        CHECKS.due("5: seal a lost sequencer", 2, log::seal);
        CHECKS.due("5: tail", 2, log::tail);
    }

    private static void sealLooksAtEveryPosition() {
        SharedLog log = Logs.handedOut();
        CHECKS.due("5: nothing is written", 0, log::seal);

        SharedLog last = Logs.handedOut();
        last.write(119);
        CHECKS.due("5: the last position is written", 120, last::seal);
        CHECKS.due("5: tail", 120, last::tail);

        SharedLog first = Logs.handedOut();
        first.write(0);
        CHECKS.due("5: the first position is written", 1, first::seal);

        SharedLog junk = Logs.handedOut();
        junk.fill(60);
        CHECKS.due("5: junk is not empty", 61, junk::seal);
    }

    private static void sealLearnsTheStreams() {
        SharedLog log = new SharedLog();
        for (int position = 0; position < 8; position++) {
            log.take(position == 5 ? 2 : 3, 1);
        }
        for (int token : new int[] {0, 1, 2, 4, 5, 7}) {
            log.write(token);
        }
        log.fill(6);
        CHECKS.due("5: seal", 8, log::seal);
        int token = log.take(15, 1);
        pointersDue(log, token, 0, 7, 4, 2, 1);
        pointersDue(log, token, 1, 7, 5, 4, 2);
        pointersDue(log, token, 2, -1, -1, -1, -1);
        int next = log.take(1, 1);
        pointersDue(log, next, 0, 8, 7, 4, 2);
        log.seal();
        int again = log.take(5, 1);
        pointersDue(log, again, 0, 7, 4, 2, 1);
        pointersDue(log, again, 2, -1, -1, -1, -1);
    }

    private static void pointersDue(SharedLog log, int token, int stream, int... want) {
        for (int k = 0; k < 4; k++) {
            int number = k;
            CHECKS.due("5: pointer(" + token + ", " + stream + ", " + k + ")", want[k],
                    () -> log.pointer(token, stream, number));
        }
    }
}
