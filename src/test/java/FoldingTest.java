/** Promises 16 to 19: takesEffect, value, valueByPointers, latest. */
public final class FoldingTest {
    private static final Checks CHECKS = new Checks();

    public static void main(String[] args) {
        conditionAtTheEdgesOfTheVersion();
        conditionReadsSeveralStreams();
        conditionLooksAtEffectsOnly();
        takesEffectOfJunk();
        takesEffectRefuses();
        valueSumsAStream();
        valueSkipsWhatHasNoEffect();
        valuesOfAFullLog();
        pointersSkipJunk();
        pointersAllJunk();
        pointersFewerThanFour();
        pointersOverASeal();
        latestOfAStream();
        refusesStreamsAndPositions();
        CHECKS.end();
    }

    private static void effectDue(String what, SharedLog log, int position, int want) {
        CHECKS.due(what + ": takesEffect(" + position + ")", want, () -> Checks.yes(log.takesEffect(position)));
    }

    private static void valueDue(String what, SharedLog log, int stream, int position, int want) {
        CHECKS.due(what + ": value(" + stream + ", " + position + ")", want, () -> log.value(stream, position));
        CHECKS.due(what + ": valueByPointers(" + stream + ", " + position + ")", want,
                () -> log.valueByPointers(stream, position));
    }

    private static void conditionAtTheEdgesOfTheVersion() {
        SharedLog log = new SharedLog();
        Logs.append(log, 1, 1);
        Logs.append(log, 2, 2);
        Logs.appendIf(log, 4, 4, 2, 1);
        Logs.appendIf(log, 4, 8, 2, 2);
        Logs.appendIf(log, 8, 16, 4, 4);
        Logs.appendIf(log, 1, 32, 1, 0);
        Logs.appendIf(log, 1, 64, 1, 1);
        effectDue("16: no condition", log, 0, 1);
        effectDue("16: a change at the version", log, 2, 0);
        effectDue("16: a change ahead of the version", log, 3, 1);
        effectDue("16: the version is its own position", log, 4, 1);
        effectDue("16: a change at the version 0", log, 5, 0);
        effectDue("16: the version 1", log, 6, 1);
    }

    private static void conditionReadsSeveralStreams() {
        SharedLog log = new SharedLog();
        Logs.append(log, 6, 1);
        Logs.appendIf(log, 1, 2, 9, 0);
        Logs.appendIf(log, 8, 4, 12, 0);
        Logs.appendIf(log, 8, 8, 11, 1);
        Logs.appendIf(log, 8, 16, 15, 2);
        Logs.appendIf(log, 8, 32, 15, 4);
        effectDue("16: streams that nobody changed", log, 1, 1);
        effectDue("16: one of two was changed by an entry of two", log, 2, 0);
        effectDue("16: the first of three was changed", log, 3, 0);
        effectDue("16: all changes are ahead of the version", log, 4, 1);
        effectDue("16: the last stream was changed", log, 5, 0);
        valueDue("16", log, 3, 6, 16);
    }

    private static void conditionLooksAtEffectsOnly() {
        SharedLog log = new SharedLog();
        Logs.append(log, 1, 1);
        Logs.appendIf(log, 2, 2, 1, 0);
        Logs.appendIf(log, 4, 4, 2, 0);
        Logs.appendIf(log, 8, 8, 4, 0);
        Logs.junk(log, 8);
        Logs.appendIf(log, 1, 16, 8, 3);
        effectDue("16: its read stream was changed", log, 1, 0);
        effectDue("16: what has no effect changes nothing", log, 2, 1);
        effectDue("16: what has an effect again does", log, 3, 0);
        effectDue("16: junk changes nothing", log, 5, 1);
        valueDue("16", log, 0, 6, 17);
        valueDue("16", log, 1, 6, 0);
        valueDue("16", log, 2, 6, 4);
        valueDue("16", log, 3, 6, 0);
    }

    private static void takesEffectOfJunk() {
        SharedLog log = new SharedLog();
        Logs.append(log, 1, 1);
        Logs.junk(log, 1);
        effectDue("16: an entry", log, 0, 1);
        effectDue("16: junk", log, 1, 0);
    }

    private static void takesEffectRefuses() {
        SharedLog log = new SharedLog();
        CHECKS.dueOutOfBounds("16: nothing is known", () -> Checks.yes(log.takesEffect(0)));
        Logs.append(log, 1, 1);
        log.take(1, 1);
        Logs.append(log, 1, 1);
        for (int position : new int[] {Logs.FAR_BELOW, -1, 1, 2, 119, 120, Logs.FAR_ABOVE}) {
            CHECKS.dueOutOfBounds("16: takesEffect(" + position + ")", () -> Checks.yes(log.takesEffect(position)));
        }
    }

    private static void valueSumsAStream() {
        SharedLog log = new SharedLog();
        valueDue("17: an empty log", log, 0, 0, 0);
        valueDue("17: an empty log", log, 3, 0, 0);
        Logs.append(log, 1, 1);
        Logs.append(log, 3, 10);
        Logs.append(log, 8, -100);
        Logs.append(log, 9, 1000);
        log.take(1, 7);
        Logs.append(log, 1, 7);
        int[][] want = {{0, 1, 11, 11, 1011}, {0, 0, 10, 10, 10}, {0, 0, 0, 0, 0}, {0, 0, 0, -100, 900}};
        for (int stream = 0; stream < 4; stream++) {
            for (int position = 0; position <= 4; position++) {
                valueDue("17", log, stream, position, want[stream][position]);
            }
        }
        CHECKS.dueOutOfBounds("17: behind the hole", () -> log.value(0, 5));
        log.lose();
        valueDue("17: without a sequencer", log, 0, 4, 1011);
    }

    private static void valueSkipsWhatHasNoEffect() {
        SharedLog log = new SharedLog();
        Logs.append(log, 1, 1);
        Logs.appendIf(log, 1, 10, 1, 0);
        Logs.appendIf(log, 1, 100, 1, 1);
        Logs.junk(log, 1);
        Logs.append(log, 1, 500);
        valueDue("17: one of two", log, 0, 2, 1);
        valueDue("17: two of three", log, 0, 3, 101);
        valueDue("17: junk has no amount", log, 0, 4, 101);
        valueDue("17: up to known()", log, 0, 5, 601);
        CHECKS.due("19: latest without an effect", 1, () -> log.latest(0, 2));
    }

    private static void valuesOfAFullLog() {
        SharedLog log = Logs.handedOut();
        for (int position = 0; position < 120; position++) {
            log.write(position);
            log.fill(position);
        }
        valueDue("17: all of them", log, 0, 120, 120);
        valueDue("17: all but one", log, 0, 119, 119);
        CHECKS.due("19: the last one", 119, () -> log.latest(0, 120));
        effectDue("16: the last one", log, 119, 1);
        CHECKS.dueOutOfBounds("17: value(0, 121)", () -> log.value(0, 121));
        CHECKS.dueOutOfBounds("16: takesEffect(120)", () -> Checks.yes(log.takesEffect(120)));
    }

    private static void pointersSkipJunk() {
        SharedLog log = new SharedLog();
        Logs.append(log, 1, 1);
        Logs.append(log, 1, 2);
        Logs.junk(log, 1);
        Logs.junk(log, 1);
        Logs.junk(log, 1);
        Logs.append(log, 1, 4);
        CHECKS.due("18: the lowest pointer", 1, () -> log.pointer(5, 0, 3));
        valueDue("18: three of four are junk", log, 0, 6, 7);
        valueDue("18: from junk", log, 0, 4, 3);
    }

    private static void pointersAllJunk() {
        SharedLog log = new SharedLog();
        Logs.append(log, 1, 1);
        Logs.append(log, 3, 2);
        Logs.append(log, 2, 16);
        for (int position = 3; position < 9; position++) {
            Logs.junk(log, 1);
        }
        Logs.append(log, 3, 4);
        CHECKS.due("18: the lowest pointer", 5, () -> log.pointer(9, 0, 3));
        valueDue("18: four are junk", log, 0, 10, 7);
        valueDue("18: another stream", log, 1, 10, 22);

        SharedLog next = new SharedLog();
        Logs.append(next, 1, 1);
        Logs.append(next, 1, 2);
        for (int position = 2; position < 6; position++) {
            Logs.junk(next, 1);
        }
        Logs.append(next, 1, 4);
        CHECKS.due("18: the lowest pointer", 2, () -> next.pointer(6, 0, 3));
        valueDue("18: the entry is right ahead of the lowest pointer", next, 0, 7, 7);

        SharedLog nothing = new SharedLog();
        for (int position = 0; position < 4; position++) {
            Logs.junk(nothing, 1);
        }
        Logs.append(nothing, 1, 4);
        valueDue("18: nothing is ahead of the junk", nothing, 0, 5, 4);
        valueDue("18: junk alone", nothing, 0, 4, 0);
    }

    private static void pointersFewerThanFour() {
        SharedLog log = new SharedLog();
        Logs.append(log, 2, 1);
        Logs.junk(log, 1);
        Logs.junk(log, 1);
        Logs.junk(log, 1);
        Logs.append(log, 1, 4);
        CHECKS.due("18: there is no fourth pointer", -1, () -> log.pointer(4, 0, 3));
        valueDue("18: three are junk, and there are no more", log, 0, 5, 4);
        valueDue("18: another stream", log, 1, 5, 1);
    }

    private static void pointersOverASeal() {
        SharedLog log = new SharedLog();
        for (int amount = 1; amount <= 32; amount *= 2) {
            log.take(1, amount);
        }
        log.write(0);
        log.write(2);
        log.write(5);
        log.lose();
        log.seal();
        for (int position = 0; position < 6; position++) {
            log.fill(position);
        }
        Logs.append(log, 1, 64);
        CHECKS.due("18: the pointers hold what is there", 5, () -> log.pointer(6, 0, 0));
        CHECKS.due("18: the pointers hold what is there", 0, () -> log.pointer(6, 0, 2));
        valueDue("18: over a seal", log, 0, 7, 1 + 4 + 32 + 64);
        valueDue("18: ahead of the seal", log, 0, 6, 1 + 4 + 32);
    }

    private static void latestOfAStream() {
        SharedLog log = new SharedLog();
        CHECKS.due("19: an empty log", -1, () -> log.latest(0, 0));
        Logs.append(log, 1, 1);
        Logs.append(log, 10, 1);
        Logs.junk(log, 1);
        Logs.appendIf(log, 8, 1, 1, 0);
        CHECKS.due("19: ahead of 0", -1, () -> log.latest(0, 0));
        CHECKS.due("19: ahead of 1", 0, () -> log.latest(0, 1));
        CHECKS.due("19: not at the position itself", -1, () -> log.latest(1, 1));
        CHECKS.due("19: junk is no entry", 0, () -> log.latest(0, 4));
        CHECKS.due("19: of the stream 1", 1, () -> log.latest(1, 4));
        CHECKS.due("19: of the stream 2", -1, () -> log.latest(2, 4));
        CHECKS.due("19: it does not take effect", 3, () -> log.latest(3, 4));
        CHECKS.due("19: ahead of 3", 1, () -> log.latest(3, 3));
        effectDue("19", log, 3, 0);
    }

    private static void refusesStreamsAndPositions() {
        SharedLog log = new SharedLog();
        Logs.append(log, 15, 1);
        log.take(15, 1);
        Logs.append(log, 15, 1);
        for (int stream : new int[] {Logs.FAR_BELOW, -1, 4, 32, Logs.FAR_ABOVE}) {
            CHECKS.dueOutOfBounds("17: value(" + stream + ", 1)", () -> log.value(stream, 1));
            CHECKS.dueOutOfBounds("18: valueByPointers(" + stream + ", 1)", () -> log.valueByPointers(stream, 1));
            CHECKS.dueOutOfBounds("19: latest(" + stream + ", 1)", () -> log.latest(stream, 1));
        }
        for (int position : new int[] {Logs.FAR_BELOW, -1, 2, 3, 120, 121, Logs.FAR_ABOVE}) {
            CHECKS.dueOutOfBounds("17: value(0, " + position + ")", () -> log.value(0, position));
            CHECKS.dueOutOfBounds("18: valueByPointers(0, " + position + ")", () -> log.valueByPointers(0, position));
            CHECKS.dueOutOfBounds("19: latest(0, " + position + ")", () -> log.latest(0, position));
        }
        CHECKS.due("19: up to known()", 0, () -> log.latest(3, 1));
    }
}
