/** The boundary cases of the promises 16 to 19, a case for each. */
public final class FoldingEdgesTest {
    private static final Checks CHECKS = new Checks();

    public static void main(String[] args) {
        CHECKS.runCases(FoldingEdgesTest.class);
        CHECKS.end();
    }

    private static void effectDue(String what, SharedLog log, int position, boolean want) {
        CHECKS.due(what + ": takesEffect(" + position + ")", Checks.yes(want),
                () -> Checks.yes(log.takesEffect(position)));
    }

    private static void valueDue(String what, SharedLog log, int stream, int position, int want) {
        CHECKS.due(what + ": value(" + stream + ", " + position + ")", want, () -> log.value(stream, position));
    }

    private static void byPointersDue(String what, SharedLog log, int stream, int position, int want) {
        CHECKS.due(what + ": valueByPointers(" + stream + ", " + position + ")", want,
                () -> log.valueByPointers(stream, position));
    }

    private static void latestDue(String what, SharedLog log, int stream, int position, int want) {
        CHECKS.due(what + ": latest(" + stream + ", " + position + ")", want, () -> log.latest(stream, position));
    }

    private static void junks(SharedLog log, int streams, int times) {
        for (int time = 0; time < times; time++) {
            Logs.junk(log, streams);
        }
    }

    /** A log whose known part ends at 2, with a complete position behind the hole. */
    private static SharedLog withAHoleAt2() {
        SharedLog log = new SharedLog();
        Logs.append(log, 15, 1);
        Logs.append(log, 15, 10);
        log.take(15, 100);
        Logs.append(log, 15, 1000);
        return log;
    }

    // ---- promise 16: takesEffect

    static void effectOfAnEntryWithoutACondition() {
        SharedLog log = new SharedLog();
        Logs.append(log, 1, 1);
        Logs.append(log, 1, 1);
        effectDue("16", log, 0, true);
        effectDue("16", log, 1, true);
    }

    static void effectOfJunk() {
        SharedLog log = new SharedLog();
        Logs.junk(log, 1);
        effectDue("16", log, 0, false);
    }

    static void effectOfNoKnownPosition() {
        SharedLog log = Logs.withTail(1);
        CHECKS.dueOutOfBounds("16: takesEffect(0)", () -> Checks.yes(log.takesEffect(0)));
    }

    static void effectOfAPositionBelow0() {
        SharedLog log = withAHoleAt2();
        for (int position : new int[] {-1, Logs.FAR_BELOW}) {
            CHECKS.dueOutOfBounds("16: takesEffect(" + position + ")", () -> Checks.yes(log.takesEffect(position)));
        }
    }

    static void effectOfTheFirstAndTheLastKnownPosition() {
        SharedLog log = withAHoleAt2();
        effectDue("16: the first", log, 0, true);
        effectDue("16: known() less 1", log, 1, true);
    }

    static void effectOfAPositionBehindTheKnownPart() {
        SharedLog log = withAHoleAt2();
        for (int position : new int[] {2, 3, 4, 119, 120, Logs.FAR_ABOVE}) {
            CHECKS.dueOutOfBounds("16: takesEffect(" + position + ")", () -> Checks.yes(log.takesEffect(position)));
        }
    }

    static void effectAtTheLastPosition() {
        SharedLog log = Logs.allKnown(1, 1);
        effectDue("16", log, 119, true);
        CHECKS.dueOutOfBounds("16: takesEffect(120)", () -> Checks.yes(log.takesEffect(120)));
    }

    static void effectOfAChangeAtTheVersion() {
        SharedLog log = new SharedLog();
        Logs.append(log, 2, 1);
        Logs.append(log, 1, 1);
        Logs.appendIf(log, 4, 1, 1, 1);
        effectDue("16", log, 2, false);
    }

    static void effectOfAChangeRightAheadOfTheVersion() {
        SharedLog log = new SharedLog();
        Logs.append(log, 2, 1);
        Logs.append(log, 1, 1);
        Logs.appendIf(log, 4, 1, 1, 2);
        effectDue("16", log, 2, true);
    }

    static void effectOfAChangeRightAheadOfTheEntry() {
        SharedLog log = new SharedLog();
        Logs.append(log, 2, 1);
        Logs.append(log, 2, 1);
        Logs.append(log, 1, 1);
        Logs.appendIf(log, 4, 1, 1, 0);
        effectDue("16", log, 3, false);
    }

    static void effectOfTheVersion0AtThePosition0() {
        SharedLog log = new SharedLog();
        Logs.appendIf(log, 1, 1, 1, 0);
        effectDue("16", log, 0, true);
    }

    static void effectOfAChangeAtThePosition0() {
        SharedLog log = new SharedLog();
        Logs.append(log, 1, 1);
        Logs.appendIf(log, 4, 1, 1, 0);
        effectDue("16", log, 1, false);
    }

    static void effectOfTheVersionThatIsItsOwnPosition() {
        SharedLog log = new SharedLog();
        Logs.append(log, 15, 1);
        Logs.append(log, 15, 1);
        Logs.appendIf(log, 15, 1, 15, 2);
        effectDue("16", log, 2, true);
    }

    static void effectOfAnEntryThatReadsItsOwnStream() {
        SharedLog log = new SharedLog();
        Logs.append(log, 1, 1);
        Logs.appendIf(log, 1, 1, 1, 1);
        effectDue("16: it is no change for itself", log, 1, true);
        Logs.appendIf(log, 1, 1, 1, 1);
        effectDue("16: but for the next", log, 2, false);
    }

    static void effectOfChangesBehindTheEntry() {
        SharedLog log = new SharedLog();
        Logs.appendIf(log, 2, 1, 1, 0);
        Logs.append(log, 1, 1);
        effectDue("16", log, 0, true);
    }

    static void effectOfAChangeOfAStreamThatWasNotRead() {
        SharedLog log = new SharedLog();
        Logs.append(log, 14, 1);
        Logs.appendIf(log, 14, 1, 1, 0);
        effectDue("16", log, 1, true);
    }

    static void effectOfAChangeOfOneOfTheStreamsThatWereRead() {
        for (int stream = 0; stream < 4; stream++) {
            SharedLog log = new SharedLog();
            Logs.append(log, 1 << stream, 1);
            Logs.appendIf(log, 1, 1, 15, 0);
            Logs.appendIf(log, 1, 1, 15 - (1 << stream), 0);
            effectDue("16: stream " + stream + " was read", log, 1, false);
            effectDue("16: stream " + stream + " was not read", log, 2, true);
        }
    }

    static void effectOfAChangeByAnEntryOfSeveralStreams() {
        SharedLog log = new SharedLog();
        Logs.append(log, 9, 1);
        Logs.appendIf(log, 2, 1, 8, 0);
        effectDue("16", log, 1, false);
    }

    static void effectOfAnEarlierChangeBelowAndALaterOneFromTheVersionOn() {
        SharedLog log = new SharedLog();
        Logs.append(log, 1, 1);
        Logs.append(log, 2, 1);
        Logs.append(log, 1, 1);
        Logs.appendIf(log, 4, 1, 1, 1);
        Logs.appendIf(log, 4, 1, 1, 3);
        effectDue("16: from the version on", log, 3, false);
        effectDue("16: below the version", log, 4, true);
    }

    static void effectOfAChangeThatTakesNone() {
        SharedLog log = new SharedLog();
        Logs.append(log, 1, 1);
        Logs.appendIf(log, 2, 1, 1, 0);
        Logs.appendIf(log, 4, 1, 2, 0);
        effectDue("16: it takes none", log, 1, false);
        effectDue("16: so it changes nothing", log, 2, true);
    }

    static void effectOfAChangeBelowOneThatTakesNone() {
        SharedLog log = new SharedLog();
        Logs.append(log, 3, 1);
        Logs.appendIf(log, 2, 1, 1, 0);
        Logs.appendIf(log, 4, 1, 2, 0);
        effectDue("16: it takes none", log, 1, false);
        effectDue("16: the change below counts on", log, 2, false);
    }

    static void effectOfAChainOfConditions() {
        SharedLog log = new SharedLog();
        Logs.append(log, 1, 1);
        for (int position = 1; position < 8; position++) {
            int read = 1 << (position - 1) % 4;
            Logs.appendIf(log, 1 << position % 4, 1, read, position - 1);
        }
        for (int position = 0; position < 8; position++) {
            effectDue("16", log, position, position % 2 == 0);
        }
    }

    static void effectOfJunkThatWouldHaveChanged() {
        SharedLog log = new SharedLog();
        Logs.junk(log, 1);
        Logs.appendIf(log, 2, 1, 1, 0);
        effectDue("16", log, 1, true);
    }

    static void effectOfAConditionInAJunkPosition() {
        SharedLog log = new SharedLog();
        log.takeIf(1, 1, 1, 0);
        log.fill(0);
        effectDue("16", log, 0, false);
    }

    static void effectOfTheAmount0() {
        SharedLog log = new SharedLog();
        Logs.append(log, 1, 0);
        Logs.appendIf(log, 2, 1, 1, 0);
        effectDue("16: an amount of 0 takes effect", log, 0, true);
        effectDue("16: and is a change", log, 1, false);
    }

    static void effectOfAnEntryThatFillCompleted() {
        SharedLog log = new SharedLog();
        log.take(1, 1);
        log.write(0);
        log.fill(0);
        Logs.appendIf(log, 2, 1, 1, 0);
        effectDue("16: it takes effect", log, 0, true);
        effectDue("16: and is a change", log, 1, false);
    }

    static void effectAskedFirstForTheLatest() {
        SharedLog log = new SharedLog();
        Logs.append(log, 1, 1);
        Logs.appendIf(log, 2, 1, 1, 0);
        Logs.appendIf(log, 4, 1, 3, 1);
        effectDue("16", log, 2, true);
        effectDue("16", log, 1, false);
        effectDue("16", log, 0, true);
        effectDue("16: again", log, 2, true);
    }

    static void effectOfAnEntryThatReplacedAnotherAtItsPosition() {
        SharedLog log = new SharedLog();
        log.take(1, 1);
        log.seal();
        log.take(2, 1);
        Logs.writeWhole(log, 1);
        Logs.appendIf(log, 4, 1, 1, 0);
        effectDue("16: the stream 0 was not changed", log, 1, true);
    }

    static void effectOfAConditionOfASealedEpoch() {
        SharedLog log = new SharedLog();
        Logs.append(log, 1, 1);
        log.takeIf(2, 1, 1, 0);
        log.write(1);
        log.seal();
        log.fill(1);
        effectDue("16", log, 1, false);
    }

    static void effectWithoutASequencer() {
        SharedLog log = new SharedLog();
        Logs.append(log, 1, 1);
        log.lose();
        effectDue("16", log, 0, true);
        CHECKS.dueOutOfBounds("16: takesEffect(1)", () -> Checks.yes(log.takesEffect(1)));
    }

    // ---- promise 17: value

    static void valueUpTo0() {
        SharedLog log = withAHoleAt2();
        for (int stream = 0; stream < 4; stream++) {
            valueDue("17", log, stream, 0, 0);
        }
    }

    static void valueIsAheadOfThePosition() {
        SharedLog log = withAHoleAt2();
        valueDue("17", log, 0, 1, 1);
    }

    static void valueUpToKnown() {
        SharedLog log = withAHoleAt2();
        valueDue("17", log, 0, 2, 11);
        valueDue("17", log, 3, 2, 11);
    }

    static void valueOfAPositionBehindKnown() {
        SharedLog log = withAHoleAt2();
        for (int position : new int[] {3, 4, 119, 120, 121, Logs.FAR_ABOVE}) {
            CHECKS.dueOutOfBounds("17: value(0, " + position + ")", () -> log.value(0, position));
        }
    }

    static void valueOfAPositionBelow0() {
        SharedLog log = withAHoleAt2();
        for (int position : new int[] {-1, Logs.FAR_BELOW}) {
            CHECKS.dueOutOfBounds("17: value(0, " + position + ")", () -> log.value(0, position));
        }
    }

    static void valueOfAStreamBelow0() {
        SharedLog log = withAHoleAt2();
        for (int stream : new int[] {-1, -32, Logs.FAR_BELOW}) {
            CHECKS.dueOutOfBounds("17: value(" + stream + ", 1)", () -> log.value(stream, 1));
            CHECKS.dueOutOfBounds("17: value(" + stream + ", 0)", () -> log.value(stream, 0));
        }
    }

    static void valueOfAStreamTooLarge() {
        SharedLog log = withAHoleAt2();
        for (int stream : new int[] {4, 32, 35, Logs.FAR_ABOVE}) {
            CHECKS.dueOutOfBounds("17: value(" + stream + ", 1)", () -> log.value(stream, 1));
            CHECKS.dueOutOfBounds("17: value(" + stream + ", 0)", () -> log.value(stream, 0));
        }
    }

    static void valueOfANewLog() {
        SharedLog log = new SharedLog();
        valueDue("17", log, 0, 0, 0);
        CHECKS.dueOutOfBounds("17: value(0, 1)", () -> log.value(0, 1));
        CHECKS.dueOutOfBounds("17: value(4, 0)", () -> log.value(4, 0));
    }

    static void valueOfTheGreatestAmounts() {
        SharedLog log = Logs.allKnown(9, 1000);
        valueDue("17: all", log, 3, 120, 120000);
        valueDue("17: all but one", log, 0, 119, 119000);
        valueDue("17: another stream", log, 1, 120, 0);
        CHECKS.dueOutOfBounds("17: value(0, 121)", () -> log.value(0, 121));
    }

    static void valueOfTheLeastAmounts() {
        SharedLog log = Logs.allKnown(1, -1000);
        valueDue("17", log, 0, 120, -120000);
    }

    static void valueThatFallsBackTo0() {
        SharedLog log = new SharedLog();
        Logs.append(log, 1, 7);
        Logs.append(log, 1, -7);
        valueDue("17", log, 0, 1, 7);
        valueDue("17", log, 0, 2, 0);
    }

    static void valueOfAStreamWithoutEntries() {
        SharedLog log = new SharedLog();
        Logs.append(log, 13, 7);
        valueDue("17", log, 1, 1, 0);
    }

    static void valueOfAnEntryOfSeveralStreams() {
        SharedLog log = new SharedLog();
        Logs.append(log, 5, 7);
        valueDue("17: the whole amount in one", log, 0, 1, 7);
        valueDue("17: and in the other", log, 2, 1, 7);
    }

    static void valueWithoutWhatTakesNoEffect() {
        SharedLog log = new SharedLog();
        Logs.append(log, 1, 1);
        Logs.appendIf(log, 3, 10, 1, 0);
        Logs.appendIf(log, 3, 100, 1, 1);
        valueDue("17", log, 0, 3, 101);
        valueDue("17", log, 1, 3, 100);
    }

    static void valueWithoutJunk() {
        SharedLog log = new SharedLog();
        Logs.junk(log, 1);
        Logs.append(log, 1, 1);
        valueDue("17", log, 0, 1, 0);
        valueDue("17", log, 0, 2, 1);
    }

    static void valueOfWhatIsReadInAnotherStream() {
        SharedLog log = new SharedLog();
        Logs.append(log, 2, 1);
        Logs.appendIf(log, 1, 10, 2, 0);
        Logs.appendIf(log, 1, 100, 2, 1);
        valueDue("17: the fold goes through all streams", log, 0, 3, 100);
    }

    static void valueAskedBackwards() {
        SharedLog log = new SharedLog();
        Logs.append(log, 1, 1);
        Logs.append(log, 1, 10);
        Logs.append(log, 1, 100);
        valueDue("17", log, 0, 3, 111);
        valueDue("17", log, 0, 1, 1);
        valueDue("17", log, 0, 2, 11);
        valueDue("17", log, 0, 3, 111);
    }

    static void valueWithoutASequencer() {
        SharedLog log = withAHoleAt2();
        log.lose();
        valueDue("17", log, 0, 2, 11);
        CHECKS.dueOutOfBounds("17: value(0, 3)", () -> log.value(0, 3));
    }

    // ---- promise 18: valueByPointers, never asked behind value, as that could leave something behind

    static void byPointersUpTo0() {
        SharedLog log = withAHoleAt2();
        for (int stream = 0; stream < 4; stream++) {
            byPointersDue("18", log, stream, 0, 0);
        }
    }

    static void byPointersIsAheadOfThePosition() {
        SharedLog log = withAHoleAt2();
        byPointersDue("18", log, 0, 1, 1);
    }

    static void byPointersUpToKnown() {
        SharedLog log = withAHoleAt2();
        byPointersDue("18", log, 0, 2, 11);
        byPointersDue("18", log, 3, 2, 11);
    }

    static void byPointersOfAPositionBehindKnown() {
        SharedLog log = withAHoleAt2();
        for (int position : new int[] {3, 4, 119, 120, 121, Logs.FAR_ABOVE}) {
            CHECKS.dueOutOfBounds("18: valueByPointers(0, " + position + ")", () -> log.valueByPointers(0, position));
        }
    }

    static void byPointersOfAPositionBelow0() {
        SharedLog log = withAHoleAt2();
        for (int position : new int[] {-1, Logs.FAR_BELOW}) {
            CHECKS.dueOutOfBounds("18: valueByPointers(0, " + position + ")", () -> log.valueByPointers(0, position));
        }
    }

    static void byPointersOfAStreamBelow0() {
        SharedLog log = withAHoleAt2();
        for (int stream : new int[] {-1, -32, Logs.FAR_BELOW}) {
            CHECKS.dueOutOfBounds("18: valueByPointers(" + stream + ", 1)", () -> log.valueByPointers(stream, 1));
            CHECKS.dueOutOfBounds("18: valueByPointers(" + stream + ", 0)", () -> log.valueByPointers(stream, 0));
        }
    }

    static void byPointersOfAStreamTooLarge() {
        SharedLog log = withAHoleAt2();
        for (int stream : new int[] {4, 32, 35, Logs.FAR_ABOVE}) {
            CHECKS.dueOutOfBounds("18: valueByPointers(" + stream + ", 1)", () -> log.valueByPointers(stream, 1));
            CHECKS.dueOutOfBounds("18: valueByPointers(" + stream + ", 0)", () -> log.valueByPointers(stream, 0));
        }
    }

    static void byPointersOfANewLog() {
        SharedLog log = new SharedLog();
        byPointersDue("18", log, 0, 0, 0);
        CHECKS.dueOutOfBounds("18: valueByPointers(0, 1)", () -> log.valueByPointers(0, 1));
        CHECKS.dueOutOfBounds("18: valueByPointers(4, 0)", () -> log.valueByPointers(4, 0));
    }

    static void byPointersOfTheGreatestAmounts() {
        SharedLog log = Logs.allKnown(9, 1000);
        byPointersDue("18: all", log, 3, 120, 120000);
        byPointersDue("18: all but one", log, 0, 119, 119000);
        byPointersDue("18: another stream", log, 1, 120, 0);
        CHECKS.dueOutOfBounds("18: valueByPointers(0, 121)", () -> log.valueByPointers(0, 121));
    }

    static void byPointersOfTheLeastAmounts() {
        SharedLog log = Logs.allKnown(1, -1000);
        byPointersDue("18", log, 0, 120, -120000);
    }

    static void byPointersFromAPositionBehindJunk() {
        SharedLog log = new SharedLog();
        Logs.append(log, 1, 1);
        Logs.append(log, 1, 10);
        Logs.junk(log, 1);
        byPointersDue("18", log, 0, 3, 11);
    }

    static void byPointersFromAPositionBehindAnotherStream() {
        SharedLog log = new SharedLog();
        Logs.append(log, 1, 1);
        Logs.append(log, 2, 10);
        byPointersDue("18", log, 0, 2, 1);
    }

    static void byPointersOfJunkAlone() {
        SharedLog log = new SharedLog();
        junks(log, 1, 6);
        byPointersDue("18", log, 0, 6, 0);
    }

    static void byPointersWithNoneToFourJunksAheadOfAnEntry() {
        for (int times = 0; times <= 4; times++) {
            SharedLog log = new SharedLog();
            Logs.append(log, 1, 1);
            Logs.append(log, 1, 10);
            junks(log, 1, times);
            Logs.append(log, 1, 100);
            byPointersDue("18: " + times + " junks", log, 0, times + 3, 111);
        }
    }

    static void byPointersWithFewerThanFourPointersThatAreAllJunk() {
        for (int times = 0; times <= 3; times++) {
            SharedLog log = new SharedLog();
            Logs.append(log, 2, 1);
            junks(log, 1, times);
            Logs.append(log, 1, 100);
            byPointersDue("18: " + times + " junks", log, 0, times + 2, 100);
        }
    }

    static void byPointersWithFourJunksAndNothingAhead() {
        SharedLog log = new SharedLog();
        junks(log, 1, 4);
        Logs.append(log, 1, 100);
        byPointersDue("18: the lowest pointer is the position 0", log, 0, 5, 100);
    }

    static void byPointersWithFourJunksAndOnlyJunkAhead() {
        SharedLog log = new SharedLog();
        junks(log, 1, 9);
        Logs.append(log, 1, 100);
        byPointersDue("18", log, 0, 10, 100);
    }

    static void byPointersWithFourJunksAndTheEntryRightAhead() {
        SharedLog log = new SharedLog();
        Logs.append(log, 2, 1);
        Logs.append(log, 1, 10);
        junks(log, 1, 4);
        Logs.append(log, 1, 100);
        byPointersDue("18", log, 0, 7, 110);
    }

    static void byPointersWithFourJunksAndTheEntryAtThePosition0() {
        SharedLog log = new SharedLog();
        Logs.append(log, 1, 10);
        junks(log, 1, 8);
        Logs.append(log, 1, 100);
        byPointersDue("18", log, 0, 10, 110);
    }

    static void byPointersWithFourJunksAndOtherStreamsAhead() {
        SharedLog log = new SharedLog();
        Logs.append(log, 1, 10);
        Logs.append(log, 14, 1);
        junks(log, 1, 1);
        Logs.append(log, 2, 1);
        junks(log, 1, 4);
        Logs.append(log, 1, 100);
        byPointersDue("18", log, 0, 9, 110);
    }

    static void byPointersWithFourJunksTwice() {
        SharedLog log = new SharedLog();
        Logs.append(log, 1, 1);
        junks(log, 1, 5);
        Logs.append(log, 1, 10);
        junks(log, 1, 5);
        Logs.append(log, 1, 100);
        byPointersDue("18", log, 0, 13, 111);
    }

    static void byPointersWithAnEntryAtEachOfTheFourPointers() {
        for (int entry = 0; entry < 4; entry++) {
            SharedLog log = new SharedLog();
            Logs.append(log, 1, 1);
            for (int position = 1; position <= 4; position++) {
                if (position == 4 - entry) {
                    Logs.append(log, 1, 10);
                } else {
                    Logs.junk(log, 1);
                }
            }
            Logs.append(log, 1, 100);
            byPointersDue("18: the pointer " + entry + " holds an entry", log, 0, 6, 111);
        }
    }

    static void byPointersOfAJunkInOneStreamAndPointersInTheOther() {
        SharedLog log = new SharedLog();
        Logs.append(log, 3, 1);
        junks(log, 2, 4);
        Logs.append(log, 3, 10);
        byPointersDue("18: by a pointer", log, 0, 6, 11);
        byPointersDue("18: by looking", log, 1, 6, 11);
    }

    static void byPointersThroughWhatTakesNoEffect() {
        SharedLog log = new SharedLog();
        Logs.append(log, 1, 1);
        Logs.appendIf(log, 1, 10, 1, 0);
        Logs.append(log, 1, 100);
        byPointersDue("18: in the middle", log, 0, 3, 101);
        byPointersDue("18: at the end", log, 0, 2, 1);
    }

    static void byPointersWhatIsReadInAnotherStream() {
        SharedLog log = new SharedLog();
        Logs.append(log, 2, 1);
        Logs.appendIf(log, 1, 10, 2, 0);
        Logs.appendIf(log, 1, 100, 2, 1);
        byPointersDue("18", log, 0, 3, 100);
    }

    static void byPointersOverASealThatForgotAHole() {
        SharedLog log = Logs.withTail(3);
        log.write(0);
        log.write(2);
        log.seal();
        log.fill(0);
        log.fill(1);
        log.fill(2);
        Logs.append(log, 1, 10);
        CHECKS.due("18: the hole has no pointer", 0, () -> log.pointer(3, 0, 1));
        byPointersDue("18", log, 0, 4, 12);
    }

    static void byPointersOverASealWithFewerThanFour() {
        SharedLog log = Logs.withTail(8);
        log.write(0);
        log.write(7);
        log.seal();
        for (int position = 0; position < 8; position++) {
            log.fill(position);
        }
        junks(log, 1, 2);
        Logs.append(log, 1, 10);
        CHECKS.due("18: the lowest pointer", 0, () -> log.pointer(10, 0, 3));
        byPointersDue("18", log, 0, 11, 12);
    }

    static void byPointersOverASealWithFourJunksBehindIt() {
        SharedLog log = Logs.withTail(3);
        log.write(0);
        log.write(2);
        log.seal();
        log.fill(0);
        log.fill(1);
        log.fill(2);
        junks(log, 1, 4);
        Logs.append(log, 1, 10);
        byPointersDue("18", log, 0, 8, 12);
    }

    static void byPointersAtEachPositionAsValue() {
        SharedLog log = mostlyJunk();
        SharedLog twin = mostlyJunk();
        for (int position = 0; position <= 60; position++) {
            byPointersDue("18", log, position % 4, position, twin.value(position % 4, position));
        }
    }

    private static SharedLog mostlyJunk() {
        SharedLog log = new SharedLog();
        for (int position = 0; position < 60; position++) {
            if (position % 8 == 1 || position % 8 == 6) {
                Logs.append(log, 1 + position % 15, position);
            } else {
                Logs.junk(log, 1 + position * 7 % 15);
            }
        }
        return log;
    }

    static void byPointersWithoutASequencer() {
        SharedLog log = withAHoleAt2();
        log.lose();
        byPointersDue("18", log, 0, 2, 11);
        CHECKS.dueOutOfBounds("18: valueByPointers(0, 3)", () -> log.valueByPointers(0, 3));
    }

    // ---- promise 19: latest

    static void latestAheadOf0() {
        SharedLog log = withAHoleAt2();
        for (int stream = 0; stream < 4; stream++) {
            latestDue("19", log, stream, 0, -1);
        }
    }

    static void latestAtThePosition0() {
        SharedLog log = withAHoleAt2();
        latestDue("19", log, 0, 1, 0);
    }

    static void latestAheadOfKnown() {
        SharedLog log = withAHoleAt2();
        latestDue("19", log, 0, 2, 1);
        latestDue("19", log, 3, 2, 1);
    }

    static void latestOfAPositionBehindKnown() {
        SharedLog log = withAHoleAt2();
        for (int position : new int[] {3, 4, 119, 120, 121, Logs.FAR_ABOVE}) {
            CHECKS.dueOutOfBounds("19: latest(0, " + position + ")", () -> log.latest(0, position));
        }
    }

    static void latestOfAPositionBelow0() {
        SharedLog log = withAHoleAt2();
        for (int position : new int[] {-1, Logs.FAR_BELOW}) {
            CHECKS.dueOutOfBounds("19: latest(0, " + position + ")", () -> log.latest(0, position));
        }
    }

    static void latestOfAStreamBelow0() {
        SharedLog log = withAHoleAt2();
        for (int stream : new int[] {-1, -32, Logs.FAR_BELOW}) {
            CHECKS.dueOutOfBounds("19: latest(" + stream + ", 1)", () -> log.latest(stream, 1));
            CHECKS.dueOutOfBounds("19: latest(" + stream + ", 0)", () -> log.latest(stream, 0));
        }
    }

    static void latestOfAStreamTooLarge() {
        SharedLog log = withAHoleAt2();
        for (int stream : new int[] {4, 32, 35, Logs.FAR_ABOVE}) {
            CHECKS.dueOutOfBounds("19: latest(" + stream + ", 1)", () -> log.latest(stream, 1));
            CHECKS.dueOutOfBounds("19: latest(" + stream + ", 0)", () -> log.latest(stream, 0));
        }
    }

    static void latestOfANewLog() {
        SharedLog log = new SharedLog();
        latestDue("19", log, 0, 0, -1);
        CHECKS.dueOutOfBounds("19: latest(0, 1)", () -> log.latest(0, 1));
        CHECKS.dueOutOfBounds("19: latest(4, 0)", () -> log.latest(4, 0));
    }

    static void latestAtTheLastPosition() {
        SharedLog log = Logs.allKnown(8, 1);
        latestDue("19: ahead of 120", log, 3, 120, 119);
        latestDue("19: ahead of 119", log, 3, 119, 118);
        latestDue("19: another stream", log, 2, 120, -1);
        CHECKS.dueOutOfBounds("19: latest(0, 121)", () -> log.latest(0, 121));
    }

    static void latestFarBelow() {
        SharedLog log = new SharedLog();
        Logs.append(log, 1, 1);
        for (int position = 1; position < 120; position++) {
            log.take(2, 1);
            log.write(position);
            log.fill(position);
        }
        latestDue("19", log, 0, 120, 0);
    }

    static void latestOfAStreamWithoutEntries() {
        SharedLog log = new SharedLog();
        Logs.append(log, 11, 1);
        latestDue("19", log, 2, 1, -1);
    }

    static void latestThatTakesNoEffect() {
        SharedLog log = new SharedLog();
        Logs.append(log, 1, 1);
        Logs.appendIf(log, 1, 1, 1, 0);
        latestDue("19", log, 0, 2, 1);
    }

    static void latestIsNoJunk() {
        SharedLog log = new SharedLog();
        Logs.junk(log, 1);
        latestDue("19: junk alone", log, 0, 1, -1);
        Logs.append(log, 1, 1);
        junks(log, 1, 5);
        latestDue("19: junk behind", log, 0, 7, 1);
    }

    static void latestIsNoStreamThatWasOnlyRead() {
        SharedLog log = new SharedLog();
        Logs.appendIf(log, 1, 1, 2, 0);
        latestDue("19", log, 1, 1, -1);
    }

    static void latestWithoutASequencer() {
        SharedLog log = withAHoleAt2();
        log.lose();
        latestDue("19", log, 0, 2, 1);
        CHECKS.dueOutOfBounds("19: latest(0, 3)", () -> log.latest(0, 3));
    }
}
