/** "A call that throws an exception changes nothing", and no call that looks does. */
public final class UnchangedTest {
    private static final Checks CHECKS = new Checks();
    private static final Twins TWINS = new Twins(CHECKS);

    public static void main(String[] args) {
        CHECKS.runCases(UnchangedTest.class);
        CHECKS.end();
    }

    /** Positions that hold an entry, junk, half an entry and nothing, and a token that is lost. */
    private static SharedLog mixed() {
        SharedLog log = new SharedLog();
        Logs.append(log, 3, 1);
        Logs.appendIf(log, 6, 10, 1, 0);
        log.write(Logs.junk(log, 9));
        log.take(12, 100);
        log.write(3);
        log.take(1, 1000);
        return log;
    }

    private static SharedLog mixedAndLost() {
        SharedLog log = mixed();
        log.lose();
        return log;
    }

    private static SharedLog mixedAndSealed() {
        SharedLog log = mixed();
        log.seal();
        return log;
    }

    private static void refused(String what, Twins.Maker maker, Twins.Question call) {
        SharedLog log = maker.make();
        String got = Checks.outcome(() -> call.answer(log));
        if (!got.startsWith("throws")) {
            CHECKS.report(what, got, "an exception");
        }
        TWINS.changesNothing(what, maker, call);
    }

    static void takeOfAWrongArgument() {
        refused("2: take(0, 1)", UnchangedTest::mixed, log -> log.take(0, 1));
        refused("2: take(16, 1)", UnchangedTest::mixed, log -> log.take(16, 1));
        refused("2: take(1, 1001)", UnchangedTest::mixed, log -> log.take(1, 1001));
        refused("2: take(1, -1001)", UnchangedTest::mixed, log -> log.take(1, -1001));
    }

    static void takeOfALostSequencer() {
        refused("2: take(15, 1)", UnchangedTest::mixedAndLost, log -> log.take(15, 1));
    }

    static void takeOfAFullLog() {
        refused("2: take(15, 1)", Logs::handedOut, log -> log.take(15, 1));
    }

    static void takeWith150Tokens() {
        refused("2: take(15, 1)", Logs::allTokens, log -> log.take(15, 1));
    }

    static void takeIfOfAWrongArgument() {
        refused("3: streams", UnchangedTest::mixed, log -> log.takeIf(16, 1, 1, 0));
        refused("3: amount", UnchangedTest::mixed, log -> log.takeIf(1, 1001, 1, 0));
        refused("3: read", UnchangedTest::mixed, log -> log.takeIf(1, 1, 0, 0));
        refused("3: version", UnchangedTest::mixed, log -> log.takeIf(1, 1, 1, 6));
        refused("3: version", UnchangedTest::mixed, log -> log.takeIf(1, 1, 1, -1));
    }

    static void takeIfOfALostSequencer() {
        refused("3: takeIf(15, 1, 1, 0)", UnchangedTest::mixedAndLost, log -> log.takeIf(15, 1, 1, 0));
    }

    static void takeIfOfAFullLog() {
        refused("3: takeIf(15, 1, 1, 120)", Logs::handedOut, log -> log.takeIf(15, 1, 1, 120));
    }

    static void takeIfWith150Tokens() {
        refused("3: takeIf(15, 1, 1, 75)", Logs::allTokens, log -> log.takeIf(15, 1, 1, 75));
    }

    static void loseOfALostSequencer() {
        refused("4: lose()", UnchangedTest::mixedAndLost, SharedLog::lose);
    }

    static void writeOfNoToken() {
        refused("6: write(5)", UnchangedTest::mixed, log -> log.write(5));
        refused("6: write(-1)", UnchangedTest::mixed, log -> log.write(-1));
    }

    static void writeOfALostToken() {
        refused("6: write(2)", UnchangedTest::mixed, log -> log.write(2));
    }

    static void writeOfAWrittenToken() {
        refused("6: write(0)", UnchangedTest::mixed, log -> log.write(0));
    }

    static void writeOfASealedToken() {
        refused("6: write(3)", UnchangedTest::mixedAndSealed, log -> log.write(3));
        refused("6: write(4)", UnchangedTest::mixedAndSealed, log -> log.write(4));
    }

    static void fillOfNoPosition() {
        refused("7: fill(-1)", UnchangedTest::mixed, log -> Checks.yes(log.fill(-1)));
        refused("7: fill(120)", UnchangedTest::mixed, log -> Checks.yes(log.fill(120)));
    }

    static void fillWithoutASequencer() {
        refused("7: fill(3)", UnchangedTest::mixedAndLost, log -> Checks.yes(log.fill(3)));
        refused("7: fill(4)", UnchangedTest::mixedAndLost, log -> Checks.yes(log.fill(4)));
    }

    static void fillAtTheTail() {
        refused("7: fill(5)", UnchangedTest::mixed, log -> Checks.yes(log.fill(5)));
        refused("7: fill(4)", UnchangedTest::mixedAndSealed, log -> Checks.yes(log.fill(4)));
    }

    static void fillOfACompletePosition() {
        refused("7: fill(0)", UnchangedTest::mixed, log -> Checks.yes(log.fill(0)));
        refused("7: fill(2)", UnchangedTest::mixed, log -> Checks.yes(log.fill(2)));
    }

    static void looksOfAnyKind() {
        Twins.Question[] looks = {
            SharedLog::epoch, SharedLog::tail, SharedLog::tokens, SharedLog::known,
            log -> log.positionOf(3), log -> log.stateOf(3), log -> log.pointer(3, 3, 0), log -> log.cellAt(2, 3),
            log -> Checks.yes(log.takesEffect(1)), log -> log.value(1, 3),
            log -> log.valueByPointers(1, 3), log -> log.latest(1, 3),
        };
        for (int look = 0; look < looks.length; look++) {
            TWINS.changesNothing(8 + look + ": a look", UnchangedTest::mixed, looks[look]);
            TWINS.changesNothing(8 + look + ": a look", UnchangedTest::mixedAndLost, looks[look]);
        }
    }

    static void looksThatAreRefused() {
        refused("11: positionOf(5)", UnchangedTest::mixed, log -> log.positionOf(5));
        refused("12: stateOf(-1)", UnchangedTest::mixed, log -> log.stateOf(-1));
        refused("13: pointer(0, 4, 0)", UnchangedTest::mixed, log -> log.pointer(0, 4, 0));
        refused("14: cellAt(3, 0)", UnchangedTest::mixed, log -> log.cellAt(3, 0));
        refused("16: takesEffect(3)", UnchangedTest::mixed, log -> Checks.yes(log.takesEffect(3)));
        refused("17: value(0, 4)", UnchangedTest::mixed, log -> log.value(0, 4));
        refused("18: valueByPointers(4, 0)", UnchangedTest::mixed, log -> log.valueByPointers(4, 0));
        refused("19: latest(0, -1)", UnchangedTest::mixed, log -> log.latest(0, -1));
    }
}
