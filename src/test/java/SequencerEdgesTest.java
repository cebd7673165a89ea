/** The boundary cases of the promises 1 to 5, a case for each. */
public final class SequencerEdgesTest {
    private static final Checks CHECKS = new Checks();

    public static void main(String[] args) {
        CHECKS.runCases(SequencerEdgesTest.class);
        CHECKS.end();
    }

    private static void latestDue(String what, SharedLog log, int token, int stream, int... want) {
        for (int k = 0; k < 4; k++) {
            int number = k;
            CHECKS.due(what + ": pointer(" + token + ", " + stream + ", " + k + ")",
                    k < want.length ? want[k] : -1, () -> log.pointer(token, stream, number));
        }
    }

    // ---- promise 1: a new object

    static void newLogIsInTheEpoch0() {
        CHECKS.due("1: epoch()", 0, new SharedLog()::epoch);
    }

    static void newLogHasTheTail0() {
        CHECKS.due("1: tail()", 0, new SharedLog()::tail);
    }

    static void newLogHasNoToken() {
        SharedLog log = new SharedLog();
        CHECKS.due("1: tokens()", 0, log::tokens);
        CHECKS.dueOutOfBounds("1: positionOf(0)", () -> log.positionOf(0));
    }

    static void newLogHasNoKnownPart() {
        SharedLog log = new SharedLog();
        CHECKS.due("1: known()", 0, log::known);
        CHECKS.dueOutOfBounds("1: takesEffect(0)", () -> Checks.yes(log.takesEffect(0)));
    }

    static void newLogsCellsAreEmpty() {
        SharedLog log = new SharedLog();
        for (int cell = 0; cell < 360; cell++) {
            int replica = cell / 120;
            int position = cell % 120;
            CHECKS.due("1: cellAt(" + replica + ", " + position + ")", -2, () -> log.cellAt(replica, position));
        }
    }

    static void newSequencerIsThere() {
        CHECKS.due("1: lose()", 0, new SharedLog()::lose);
    }

    static void newSequencerKnowsNoPosition() {
        SharedLog log = new SharedLog();
        log.take(15, 1);
        for (int stream = 0; stream < 4; stream++) {
            latestDue("1", log, 0, stream);
        }
    }

    static void newLogHasTheValue0InEachStream() {
        SharedLog log = new SharedLog();
        for (int stream = 0; stream < 4; stream++) {
            int s = stream;
            CHECKS.due("1: value(" + s + ", 0)", 0, () -> log.value(s, 0));
            CHECKS.due("1: latest(" + s + ", 0)", -1, () -> log.latest(s, 0));
        }
    }

    static void newLogSharesNothingWithAnother() {
        SharedLog log = new SharedLog();
        Logs.append(log, 1, 5);
        log.take(1, 5);
        log.seal();
        log.lose();
        SharedLog other = new SharedLog();
        CHECKS.due("1: epoch()", 0, other::epoch);
        CHECKS.due("1: tail()", 0, other::tail);
        CHECKS.due("1: tokens()", 0, other::tokens);
        CHECKS.due("1: known()", 0, other::known);
        CHECKS.due("1: cellAt(0, 0)", -2, () -> other.cellAt(0, 0));
        other.take(1, 1);
        latestDue("1", other, 0, 0);
        CHECKS.due("1: the first keeps its token", 0, () -> log.cellAt(2, 0));
    }

    // ---- promise 2: take

    static void takeOfTheLeastStreams() {
        SharedLog log = new SharedLog();
        CHECKS.due("2: take(1, 5)", 0, () -> log.take(1, 5));
        Logs.writeWhole(log, 0);
        CHECKS.due("2: it has the stream 0", 5, () -> log.value(0, 1));
        for (int stream = 1; stream < 4; stream++) {
            int s = stream;
            CHECKS.due("2: it does not have the stream " + s, -1, () -> log.latest(s, 1));
        }
    }

    static void takeOfTheGreatestStreams() {
        SharedLog log = new SharedLog();
        CHECKS.due("2: take(15, 5)", 0, () -> log.take(15, 5));
        Logs.writeWhole(log, 0);
        for (int stream = 0; stream < 4; stream++) {
            int s = stream;
            CHECKS.due("2: it has the stream " + s, 5, () -> log.value(s, 1));
        }
    }

    static void takeOfEachSetOfStreams() {
        for (int streams = 1; streams <= 15; streams++) {
            SharedLog log = new SharedLog();
            Logs.append(log, streams, 1);
            for (int stream = 0; stream < 4; stream++) {
                int s = stream;
                boolean belongs = streams / (1 << stream) % 2 == 1;
                CHECKS.due("2: latest(" + s + ", 1) of " + streams, belongs ? 0 : -1, () -> log.latest(s, 1));
            }
        }
    }

    static void takeOfNoStream() {
        SharedLog log = new SharedLog();
        CHECKS.dueArgument("2: take(0, 0)", () -> log.take(0, 0));
    }

    static void takeOfStreamsTooSmall() {
        SharedLog log = new SharedLog();
        for (int streams : new int[] {-1, -15, -16, Logs.FAR_BELOW, Logs.FAR_BELOW + 1}) {
            CHECKS.dueArgument("2: take(" + streams + ", 0)", () -> log.take(streams, 0));
        }
    }

    static void takeOfStreamsTooLarge() {
        SharedLog log = new SharedLog();
        for (int streams : new int[] {16, 17, 31, 257, Logs.FAR_ABOVE}) {
            CHECKS.dueArgument("2: take(" + streams + ", 0)", () -> log.take(streams, 0));
        }
    }

    static void takeOfTheLeastAmount() {
        SharedLog log = new SharedLog();
        Logs.append(log, 1, -1000);
        CHECKS.due("2: value", -1000, () -> log.value(0, 1));
    }

    static void takeOfTheGreatestAmount() {
        SharedLog log = new SharedLog();
        Logs.append(log, 1, 1000);
        CHECKS.due("2: value", 1000, () -> log.value(0, 1));
    }

    static void takeOfTheAmount0() {
        SharedLog log = new SharedLog();
        Logs.append(log, 1, 0);
        CHECKS.due("2: value", 0, () -> log.value(0, 1));
        CHECKS.due("2: it is an entry", 0, () -> log.latest(0, 1));
    }

    static void takeOfAnAmountTooSmall() {
        SharedLog log = new SharedLog();
        for (int amount : new int[] {-1001, Logs.FAR_BELOW, Logs.FAR_BELOW + 1000}) {
            CHECKS.dueArgument("2: take(1, " + amount + ")", () -> log.take(1, amount));
        }
    }

    static void takeOfAnAmountTooLarge() {
        SharedLog log = new SharedLog();
        for (int amount : new int[] {1001, Logs.FAR_ABOVE, Logs.FAR_ABOVE - 1000}) {
            CHECKS.dueArgument("2: take(1, " + amount + ")", () -> log.take(1, amount));
        }
    }

    static void takeCountsTokensFrom0() {
        SharedLog log = new SharedLog();
        CHECKS.due("2: the first", 0, () -> log.take(1, 0));
        CHECKS.due("2: the second", 1, () -> log.take(1, 0));
        log.seal();
        CHECKS.due("2: the numbers go on behind a seal", 2, () -> log.take(1, 0));
    }

    static void takeOfARefusedCallUsesNoNumber() {
        SharedLog log = new SharedLog();
        CHECKS.dueArgument("2: take(0, 0)", () -> log.take(0, 0));
        CHECKS.due("2: the first", 0, () -> log.take(1, 0));
        CHECKS.due("2: its position", 0, () -> log.positionOf(0));
    }

    static void takeOfTheLastPosition() {
        SharedLog log = Logs.withTail(119);
        CHECKS.due("2: take at the tail 119", 119, () -> log.take(1, 0));
        CHECKS.due("2: its position", 119, () -> log.positionOf(119));
        CHECKS.due("2: tail()", 120, log::tail);
    }

    static void takeAtTheTail120() {
        SharedLog log = Logs.withTail(120);
        CHECKS.dueState("2: take(1, 0)", () -> log.take(1, 0));
    }

    static void takeAtTheTail120BehindASeal() {
        SharedLog log = Logs.withTail(120);
        log.write(119);
        log.seal();
        CHECKS.dueState("2: take(1, 0)", () -> log.take(1, 0));
    }

    static void takeBehindASealThatMakesRoom() {
        SharedLog log = Logs.withTail(120);
        log.write(118);
        log.seal();
        CHECKS.due("2: take(1, 0)", 120, () -> log.take(1, 0));
        CHECKS.due("2: its position", 119, () -> log.positionOf(120));
        CHECKS.dueState("2: one more", () -> log.take(1, 0));
    }

    static void takeOfTheLastToken() {
        SharedLog log = Logs.withTail(120);
        log.seal();
        for (int token = 120; token < 150; token++) {
            int t = token;
            CHECKS.due("2: take(1, 0)", t, () -> log.take(1, 0));
        }
        CHECKS.due("2: tokens()", 150, log::tokens);
        CHECKS.due("2: tail()", 30, log::tail);
    }

    static void takeWith150Tokens() {
        SharedLog log = Logs.allTokens();
        CHECKS.dueState("2: take(1, 0)", () -> log.take(1, 0));
    }

    static void takeWith150TokensBehindASeal() {
        SharedLog log = Logs.allTokens();
        log.seal();
        CHECKS.dueState("2: take(1, 0)", () -> log.take(1, 0));
    }

    static void takeOfTheLastTokenAtTheLastPosition() {
        SharedLog log = Logs.fullWithAllTokens();
        CHECKS.due("2: tokens()", 150, log::tokens);
        CHECKS.due("2: tail()", 120, log::tail);
        CHECKS.due("2: positionOf(149)", 119, () -> log.positionOf(149));
        CHECKS.dueState("2: take(1, 0)", () -> log.take(1, 0));
    }

    static void takeOfALostSequencer() {
        SharedLog log = Logs.lostAt(0);
        CHECKS.dueState("2: take(1, 0)", () -> log.take(1, 0));
    }

    static void takeOfTheNextSequencer() {
        SharedLog log = Logs.lostAt(1);
        log.seal();
        CHECKS.due("2: take(1, 0)", 1, () -> log.take(1, 0));
        CHECKS.due("2: positionOf(1)", 0, () -> log.positionOf(1));
    }

    static void takeNamesTheArgumentFirst() {
        SharedLog[] refusing = {Logs.lostAt(1), Logs.withTail(120), Logs.allTokens(), Logs.fullWithAllTokens()};
        for (SharedLog log : refusing) {
            CHECKS.dueArgument("2: take(0, 0)", () -> log.take(0, 0));
            CHECKS.dueArgument("2: take(16, 0)", () -> log.take(16, 0));
            CHECKS.dueArgument("2: take(1, -1001)", () -> log.take(1, -1001));
            CHECKS.dueArgument("2: take(1, 1001)", () -> log.take(1, 1001));
            CHECKS.dueState("2: take(15, 1000)", () -> log.take(15, 1000));
        }
    }

    static void takePointsAheadOfItsOwnPosition() {
        SharedLog log = new SharedLog();
        log.take(1, 1);
        log.take(1, 1);
        latestDue("2", log, 0, 0);
        latestDue("2", log, 1, 0, 0);
    }

    static void takeOfTheFifthPositionForgetsTheFirst() {
        SharedLog log = Logs.withTail(6);
        latestDue("2: four known", log, 4, 0, 3, 2, 1, 0);
        latestDue("2: five handed out", log, 5, 0, 4, 3, 2, 1);
    }

    static void takeTellsTheSequencerForItsStreamsOnly() {
        SharedLog log = new SharedLog();
        log.take(5, 1);
        log.take(2, 1);
        log.take(15, 1);
        latestDue("2", log, 2, 0, 0);
        latestDue("2", log, 2, 1, 1);
        latestDue("2", log, 2, 2, 0);
        latestDue("2", log, 2, 3);
    }

    static void takeWritesNothing() {
        SharedLog log = new SharedLog();
        log.take(15, 1);
        for (int replica = 0; replica < 3; replica++) {
            int r = replica;
            CHECKS.due("2: cellAt(" + r + ", 0)", -2, () -> log.cellAt(r, 0));
        }
        CHECKS.due("2: stateOf(0)", 0, () -> log.stateOf(0));
    }

    // ---- promise 3: takeIf

    static void takeIfOfTheLeastStreams() {
        SharedLog log = new SharedLog();
        Logs.appendIf(log, 1, 5, 2, 0);
        CHECKS.due("3: it has the stream 0", 5, () -> log.value(0, 1));
        CHECKS.due("3: it does not have what it read", -1, () -> log.latest(1, 1));
    }

    static void takeIfOfTheGreatestStreams() {
        SharedLog log = new SharedLog();
        Logs.appendIf(log, 15, 5, 1, 0);
        CHECKS.due("3: it has the stream 3", 5, () -> log.value(3, 1));
    }

    static void takeIfOfNoStream() {
        SharedLog log = new SharedLog();
        CHECKS.dueArgument("3: takeIf(0, 0, 1, 0)", () -> log.takeIf(0, 0, 1, 0));
    }

    static void takeIfOfStreamsTooSmall() {
        SharedLog log = new SharedLog();
        for (int streams : new int[] {-1, -15, Logs.FAR_BELOW, Logs.FAR_BELOW + 1}) {
            CHECKS.dueArgument("3: takeIf(" + streams + ", 0, 1, 0)", () -> log.takeIf(streams, 0, 1, 0));
        }
    }

    static void takeIfOfStreamsTooLarge() {
        SharedLog log = new SharedLog();
        for (int streams : new int[] {16, 17, 257, Logs.FAR_ABOVE}) {
            CHECKS.dueArgument("3: takeIf(" + streams + ", 0, 1, 0)", () -> log.takeIf(streams, 0, 1, 0));
        }
    }

    static void takeIfOfTheLeastAndTheGreatestAmount() {
        SharedLog log = new SharedLog();
        Logs.appendIf(log, 1, -1000, 2, 0);
        Logs.appendIf(log, 4, 1000, 2, 0);
        CHECKS.due("3: the least", -1000, () -> log.value(0, 2));
        CHECKS.due("3: the greatest", 1000, () -> log.value(2, 2));
    }

    static void takeIfOfAnAmountTooSmall() {
        SharedLog log = new SharedLog();
        for (int amount : new int[] {-1001, Logs.FAR_BELOW}) {
            CHECKS.dueArgument("3: takeIf(1, " + amount + ", 1, 0)", () -> log.takeIf(1, amount, 1, 0));
        }
    }

    static void takeIfOfAnAmountTooLarge() {
        SharedLog log = new SharedLog();
        for (int amount : new int[] {1001, Logs.FAR_ABOVE}) {
            CHECKS.dueArgument("3: takeIf(1, " + amount + ", 1, 0)", () -> log.takeIf(1, amount, 1, 0));
        }
    }

    static void takeIfThatReadsTheLeastAndTheGreatestStreams() {
        SharedLog log = new SharedLog();
        CHECKS.due("3: takeIf(1, 0, 1, 0)", 0, () -> log.takeIf(1, 0, 1, 0));
        CHECKS.due("3: takeIf(1, 0, 15, 0)", 1, () -> log.takeIf(1, 0, 15, 0));
    }

    static void takeIfThatReadsNoStream() {
        SharedLog log = new SharedLog();
        CHECKS.dueArgument("3: takeIf(1, 0, 0, 0)", () -> log.takeIf(1, 0, 0, 0));
    }

    static void takeIfThatReadsTooSmall() {
        SharedLog log = new SharedLog();
        for (int read : new int[] {-1, -15, Logs.FAR_BELOW, Logs.FAR_BELOW + 1}) {
            CHECKS.dueArgument("3: takeIf(1, 0, " + read + ", 0)", () -> log.takeIf(1, 0, read, 0));
        }
    }

    static void takeIfThatReadsTooLarge() {
        SharedLog log = new SharedLog();
        for (int read : new int[] {16, 17, 257, Logs.FAR_ABOVE}) {
            CHECKS.dueArgument("3: takeIf(1, 0, " + read + ", 0)", () -> log.takeIf(1, 0, read, 0));
        }
    }

    static void takeIfOfTheVersion0() {
        SharedLog log = Logs.withTail(3);
        CHECKS.due("3: takeIf(1, 0, 1, 0)", 3, () -> log.takeIf(1, 0, 1, 0));
    }

    static void takeIfOfTheVersionThatIsTheTail() {
        SharedLog log = Logs.withTail(3);
        CHECKS.due("3: takeIf(1, 0, 1, 3)", 3, () -> log.takeIf(1, 0, 1, 3));
    }

    static void takeIfOfAVersionBelow0() {
        SharedLog log = Logs.withTail(3);
        for (int version : new int[] {-1, Logs.FAR_BELOW}) {
            CHECKS.dueArgument("3: version " + version, () -> log.takeIf(1, 0, 1, version));
        }
    }

    static void takeIfOfAVersionAboveTheTail() {
        SharedLog log = Logs.withTail(3);
        for (int version : new int[] {4, 120, Logs.FAR_ABOVE}) {
            CHECKS.dueArgument("3: version " + version, () -> log.takeIf(1, 0, 1, version));
        }
    }

    static void takeIfOfTheOnlyVersionOfANewLog() {
        SharedLog log = new SharedLog();
        CHECKS.dueArgument("3: version 1", () -> log.takeIf(1, 0, 1, 1));
        CHECKS.dueArgument("3: version -1", () -> log.takeIf(1, 0, 1, -1));
        CHECKS.due("3: version 0", 0, () -> log.takeIf(1, 0, 1, 0));
    }

    static void takeIfOfAVersionAboveTheTailBehindASeal() {
        SharedLog log = Logs.withTail(5);
        log.write(1);
        log.seal();
        CHECKS.dueArgument("3: version 3 at the tail 2", () -> log.takeIf(1, 0, 1, 3));
        CHECKS.dueArgument("3: version 5 at the tail 2", () -> log.takeIf(1, 0, 1, 5));
        CHECKS.due("3: version 2 at the tail 2", 5, () -> log.takeIf(1, 0, 1, 2));
    }

    static void takeIfOfTheLastPosition() {
        SharedLog log = Logs.withTail(119);
        CHECKS.due("3: version 119 at the tail 119", 119, () -> log.takeIf(1, 0, 1, 119));
        CHECKS.due("3: positionOf(119)", 119, () -> log.positionOf(119));
    }

    static void takeIfAtTheTail120() {
        SharedLog log = Logs.withTail(120);
        CHECKS.dueState("3: version 0", () -> log.takeIf(1, 0, 1, 0));
        CHECKS.dueState("3: version 120", () -> log.takeIf(1, 0, 1, 120));
    }

    static void takeIfOfAWrongVersionAtTheTail120() {
        SharedLog log = Logs.withTail(120);
        CHECKS.dueArgument("3: version 121", () -> log.takeIf(1, 0, 1, 121));
        CHECKS.dueArgument("3: version -1", () -> log.takeIf(1, 0, 1, -1));
    }

    static void takeIfOfTheLastToken() {
        SharedLog log = Logs.withTail(120);
        log.seal();
        for (int token = 120; token < 150; token++) {
            int t = token;
            CHECKS.due("3: takeIf(1, 0, 1, 0)", t, () -> log.takeIf(1, 0, 1, 0));
        }
        CHECKS.dueState("3: one more", () -> log.takeIf(1, 0, 1, 0));
    }

    static void takeIfOfAWrongVersionWith150Tokens() {
        SharedLog log = Logs.allTokens();
        CHECKS.dueState("3: version 75 at the tail 75", () -> log.takeIf(1, 0, 1, 75));
        CHECKS.dueArgument("3: version 76 at the tail 75", () -> log.takeIf(1, 0, 1, 76));
    }

    static void takeIfOfALostSequencer() {
        SharedLog log = Logs.lostAt(2);
        CHECKS.dueState("3: takeIf(1, 0, 1, 0)", () -> log.takeIf(1, 0, 1, 0));
    }

    static void takeIfOfALostSequencerDoesNotLookAtTheVersion() {
        SharedLog log = Logs.lostAt(2);
        for (int version : new int[] {-1, 3, 121, Logs.FAR_BELOW, Logs.FAR_ABOVE}) {
            CHECKS.dueState("3: version " + version, () -> log.takeIf(1, 0, 1, version));
        }
    }

    static void takeIfNamesTheArgumentFirst() {
        SharedLog[] refusing = {Logs.lostAt(1), Logs.withTail(120), Logs.allTokens(), Logs.fullWithAllTokens()};
        for (SharedLog log : refusing) {
            CHECKS.dueArgument("3: streams 0", () -> log.takeIf(0, 0, 1, 0));
            CHECKS.dueArgument("3: streams 16", () -> log.takeIf(16, 0, 1, 0));
            CHECKS.dueArgument("3: amount -1001", () -> log.takeIf(1, -1001, 1, 0));
            CHECKS.dueArgument("3: amount 1001", () -> log.takeIf(1, 1001, 1, 0));
            CHECKS.dueArgument("3: read 0", () -> log.takeIf(1, 0, 0, 0));
            CHECKS.dueArgument("3: read 16", () -> log.takeIf(1, 0, 16, 0));
            CHECKS.dueState("3: all in range", () -> log.takeIf(15, 1000, 15, 0));
        }
    }

    static void takeIfPointsByItsStreamsNotByWhatItRead() {
        SharedLog log = new SharedLog();
        log.take(1, 1);
        log.take(2, 1);
        log.takeIf(1, 1, 2, 0);
        latestDue("3: what it has", log, 2, 0, 0);
        latestDue("3: what it read", log, 2, 1);
        log.take(3, 1);
        latestDue("3: the next of the stream 0", log, 3, 0, 2, 0);
        latestDue("3: the next of the stream 1", log, 3, 1, 1);
    }

    static void takeIfOfARefusedCallUsesNoNumber() {
        SharedLog log = new SharedLog();
        CHECKS.dueArgument("3: version 1", () -> log.takeIf(1, 0, 1, 1));
        CHECKS.due("3: tail()", 0, log::tail);
        CHECKS.due("3: the first", 0, () -> log.takeIf(1, 0, 1, 0));
        latestDue("3", log, 0, 0);
    }

    // ---- promise 4: lose

    static void loseAtTheTail0() {
        SharedLog log = new SharedLog();
        CHECKS.due("4: lose()", 0, log::lose);
        CHECKS.due("4: tail()", -1, log::tail);
    }

    static void loseAtTheTail120() {
        SharedLog log = Logs.withTail(120);
        CHECKS.due("4: lose()", 120, log::lose);
        CHECKS.due("4: tail()", -1, log::tail);
    }

    static void loseTwice() {
        SharedLog log = Logs.lostAt(3);
        CHECKS.dueState("4: lose()", log::lose);
        CHECKS.dueState("4: lose()", log::lose);
    }

    static void loseTheNextSequencer() {
        SharedLog log = Logs.lostAt(3);
        log.seal();
        CHECKS.due("4: the first tail was 3, this one is 0", 0, log::lose);
        CHECKS.dueState("4: lose()", log::lose);
    }

    static void loseBeginsNoEpoch() {
        SharedLog log = Logs.lostAt(3);
        CHECKS.due("4: epoch()", 0, log::epoch);
        CHECKS.due("4: a token of the epoch writes", 1, () -> log.write(2));
    }

    static void loseLeavesTokensAndCells() {
        SharedLog log = new SharedLog();
        Logs.append(log, 1, 5);
        log.take(1, 6);
        log.write(1);
        log.lose();
        CHECKS.due("4: tokens()", 2, log::tokens);
        CHECKS.due("4: known()", 1, log::known);
        CHECKS.due("4: stateOf(1)", 1, () -> log.stateOf(1));
        CHECKS.due("4: cellAt(0, 1)", 1, () -> log.cellAt(0, 1));
        CHECKS.due("4: value(0, 1)", 5, () -> log.value(0, 1));
    }

    // ---- promise 5: seal

    static void sealOfANewLog() {
        SharedLog log = new SharedLog();
        CHECKS.due("5: seal()", 0, log::seal);
        CHECKS.due("5: epoch()", 1, log::epoch);
        CHECKS.due("5: tail()", 0, log::tail);
    }

    static void sealOfALostSequencer() {
        SharedLog log = Logs.lostAt(3);
        log.write(1);
        CHECKS.due("5: seal()", 2, log::seal);
        CHECKS.due("5: tail()", 2, log::tail);
        CHECKS.due("5: epoch()", 1, log::epoch);
    }

    static void sealWhileTheSequencerIsThere() {
        SharedLog log = Logs.withTail(3);
        log.write(1);
        CHECKS.due("5: seal()", 2, log::seal);
        CHECKS.due("5: tail()", 2, log::tail);
        CHECKS.due("5: epoch()", 1, log::epoch);
    }

    static void sealTwice() {
        SharedLog log = Logs.withTail(3);
        log.write(2);
        CHECKS.due("5: seal()", 3, log::seal);
        CHECKS.due("5: seal() again", 3, log::seal);
        CHECKS.due("5: epoch()", 2, log::epoch);
    }

    static void sealOf512Calls() {
        SharedLog log = new SharedLog();
        for (int call = 1; call < 512; call++) {
            CHECKS.due("5: seal()", 0, log::seal);
        }
        CHECKS.due("5: epoch() as the call 512", 511, log::epoch);
    }

    static void sealWithAllCellsEmpty() {
        SharedLog log = Logs.withTail(120);
        CHECKS.due("5: seal()", 0, log::seal);
        CHECKS.due("5: tail()", 0, log::tail);
    }

    static void sealWithTheFirstPositionWritten() {
        SharedLog log = Logs.withTail(120);
        log.write(0);
        CHECKS.due("5: seal()", 1, log::seal);
    }

    static void sealWithTheLastPositionWritten() {
        SharedLog log = Logs.withTail(120);
        log.write(119);
        CHECKS.due("5: seal()", 120, log::seal);
        CHECKS.due("5: tail()", 120, log::tail);
    }

    static void sealWithOneReplicaWritten() {
        SharedLog log = Logs.withTail(5);
        log.write(3);
        CHECKS.due("5: seal()", 4, log::seal);
    }

    static void sealWithJunkAtTheEnd() {
        SharedLog log = Logs.withTail(5);
        log.write(1);
        log.fill(3);
        CHECKS.due("5: seal()", 4, log::seal);
    }

    static void sealWithAHoleAheadOfTheGreatest() {
        SharedLog log = Logs.withTail(5);
        log.write(4);
        CHECKS.due("5: seal()", 5, log::seal);
        CHECKS.due("5: known()", 0, log::known);
        CHECKS.due("5: the hole stays", -2, () -> log.cellAt(0, 0));
    }

    static void sealKeepsCellsAndStates() {
        SharedLog log = Logs.withTail(4);
        Logs.writeWhole(log, 0);
        log.fill(1);
        log.write(2);
        log.seal();
        CHECKS.due("5: an entry stays", 0, () -> log.cellAt(2, 0));
        CHECKS.due("5: junk stays", -1, () -> log.cellAt(0, 1));
        CHECKS.due("5: a half written one stays", 2, () -> log.cellAt(0, 2));
        CHECKS.due("5: its rest stays empty", -2, () -> log.cellAt(1, 2));
        CHECKS.due("5: stateOf(2)", 1, () -> log.stateOf(2));
        CHECKS.due("5: tokens()", 4, log::tokens);
    }

    static void sealKnowsAStreamWithFourEntries() {
        SharedLog log = Logs.withTail(4);
        for (int token = 0; token < 4; token++) {
            log.write(token);
        }
        log.seal();
        log.take(1, 1);
        latestDue("5", log, 4, 0, 3, 2, 1, 0);
    }

    static void sealKnowsTheLatestFourOfFive() {
        SharedLog log = Logs.withTail(5);
        for (int token = 0; token < 5; token++) {
            log.write(token);
        }
        log.seal();
        log.take(1, 1);
        latestDue("5", log, 5, 0, 4, 3, 2, 1);
    }

    static void sealKnowsFewerThanFour() {
        SharedLog log = Logs.withTail(5);
        log.write(0);
        log.write(2);
        log.write(4);
        log.seal();
        log.take(1, 1);
        latestDue("5", log, 5, 0, 4, 2, 0);
    }

    static void sealKnowsNothingOfAStreamWithoutEntries() {
        SharedLog log = Logs.withTail(5);
        log.write(4);
        log.seal();
        log.take(2, 1);
        latestDue("5", log, 5, 1);
    }

    static void sealForgetsWhatWasOnlyHandedOut() {
        SharedLog log = Logs.withTail(5);
        log.write(1);
        log.seal();
        log.take(1, 1);
        latestDue("5", log, 5, 0, 1);
    }

    static void sealForgetsJunk() {
        SharedLog log = Logs.withTail(3);
        log.write(0);
        log.fill(1);
        log.fill(2);
        CHECKS.due("5: seal()", 3, log::seal);
        log.take(1, 1);
        latestDue("5", log, 3, 0, 0);
    }

    static void sealKnowsThePositionsThatTheLostSequencerForgot() {
        SharedLog log = Logs.withTail(7);
        log.write(0);
        log.write(1);
        for (int position = 2; position < 7; position++) {
            log.fill(position);
        }
        log.seal();
        log.take(1, 1);
        latestDue("5", log, 7, 0, 1, 0);
    }

    static void sealKnowsEntriesWithoutEffect() {
        SharedLog log = new SharedLog();
        Logs.append(log, 1, 1);
        Logs.appendIf(log, 1, 1, 1, 0);
        log.seal();
        log.take(1, 1);
        latestDue("5", log, 2, 0, 1, 0);
    }

    static void sealKnowsEachStreamOfAnEntry() {
        SharedLog log = new SharedLog();
        log.take(10, 1);
        log.take(3, 1);
        log.write(0);
        log.write(1);
        log.seal();
        log.take(15, 1);
        latestDue("5", log, 2, 0, 1);
        latestDue("5", log, 2, 1, 1, 0);
        latestDue("5", log, 2, 2);
        latestDue("5", log, 2, 3, 0);
    }

    static void sealKnowsTheLastPosition() {
        SharedLog log = Logs.withTail(120);
        log.write(118);
        log.seal();
        CHECKS.due("5: take(1, 1)", 120, () -> log.take(1, 1));
        latestDue("5", log, 120, 0, 118);
        log.write(120);
        CHECKS.due("5: seal()", 120, log::seal);
    }
}
