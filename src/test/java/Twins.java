import java.util.ArrayList;
import java.util.List;

/** Tells whether a call changes anything: asks a log that had the call and a twin that had not all that can be asked. */
final class Twins {
    interface Maker {
        SharedLog make();
    }

    interface Question {
        long answer(SharedLog log);
    }

    /** Far enough below 512 calls for every log that a test makes. */
    private static final int QUESTIONS_A_TWIN = 100;

    private final Checks checks;
    private final List<Question> looks = new ArrayList<>();
    private final List<String> names = new ArrayList<>();

    Twins(Checks checks) {
        this.checks = checks;
    }

    void changesNothing(String what, Maker maker, Question call) {
        askWhatThereIs(maker.make());
        for (int from = 0; from < looks.size(); from += QUESTIONS_A_TWIN) {
            compare(what, maker, call, from, Math.min(looks.size(), from + QUESTIONS_A_TWIN));
        }
        askWhatComesNext();
        compare(what, maker, call, 0, looks.size());
        askWhatComesBehindASeal();
        compare(what, maker, call, 0, looks.size());
    }

    private void compare(String what, Maker maker, Question call, int from, int to) {
        SharedLog touched = maker.make();
        SharedLog untouched = maker.make();
        Checks.outcome(() -> call.answer(touched));
        for (int number = from; number < to; number++) {
            Question look = looks.get(number);
            String got = Checks.outcome(() -> look.answer(touched));
            String want = Checks.outcome(() -> look.answer(untouched));
            if (!got.equals(want)) {
                checks.report(what + ", then " + names.get(number), got, want);
            }
        }
    }

    private void begin() {
        looks.clear();
        names.clear();
    }

    private void ask(String name, Question look) {
        names.add(name);
        looks.add(look);
    }

    private void askWhatThereIs(SharedLog log) {
        begin();
        ask("epoch()", SharedLog::epoch);
        ask("tail()", SharedLog::tail);
        ask("tokens()", SharedLog::tokens);
        ask("known()", SharedLog::known);
        for (int token = 0; token <= log.tokens(); token++) {
            askOfAToken(token);
        }
        for (int cell = 0; cell < 360; cell++) {
            int replica = cell / 120;
            int position = cell % 120;
            ask("cellAt(" + replica + ", " + position + ")", of -> of.cellAt(replica, position));
        }
        int known = log.known();
        for (int position = 0; position <= known; position++) {
            int p = position;
            ask("takesEffect(" + p + ")", of -> Checks.yes(of.takesEffect(p)));
        }
        for (int stream = 0; stream < 4; stream++) {
            int s = stream;
            ask("value(" + s + ", " + known + ")", of -> of.value(s, known));
            ask("valueByPointers(" + s + ", " + known + ")", of -> of.valueByPointers(s, known));
            ask("latest(" + s + ", " + known + ")", of -> of.latest(s, known));
        }
    }

    private void askOfAToken(int token) {
        ask("positionOf(" + token + ")", of -> of.positionOf(token));
        ask("stateOf(" + token + ")", of -> of.stateOf(token));
        for (int number = 0; number < 16; number++) {
            int stream = number / 4;
            int k = number % 4;
            ask("pointer(" + token + ", " + stream + ", " + k + ")", of -> of.pointer(token, stream, k));
        }
    }

    private void askForTheNextToken() {
        ask("take(15, 1)", of -> of.take(15, 1));
        for (int number = 0; number < 16; number++) {
            int stream = number / 4;
            int k = number % 4;
            ask("pointer(the new one, " + stream + ", " + k + ")", of -> of.pointer(of.tokens() - 1, stream, k));
        }
        ask("write(the new one)", of -> of.write(of.tokens() - 1));
    }

    private void askWhatComesNext() {
        begin();
        askForTheNextToken();
        for (int token = 0; token < 6; token++) {
            int t = token;
            ask("write(" + t + ")", of -> of.write(t));
            ask("fill(" + t + ")", of -> Checks.yes(of.fill(t)));
        }
        ask("lose()", SharedLog::lose);
    }

    private void askWhatComesBehindASeal() {
        begin();
        ask("seal()", SharedLog::seal);
        ask("epoch()", SharedLog::epoch);
        askForTheNextToken();
    }
}
