import java.util.ArrayList;
import java.util.List;
import java.util.function.IntFunction;

/**
 * A run of calls that is played anew, on a fresh object, for each thing asked behind it: so no object
 * is asked for more than 512 calls. A refused call is made on one of two twins: whatever can be asked
 * of both afterwards must be answered alike, but for the latest finding.
 */
final class Scene {
    /** One call on an object; what it answers. */
    interface Call {
        long on(FilledRoll x);
    }

    private record Query(String name, Call call) { }

    private static final int NONE = -1, BAD = -2, CALLS = 512;
    private static final List<Query> QUERIES = new ArrayList<>();

    private final Check check;
    private final String name;
    private final List<Call> calls = new ArrayList<>();
    private long[] told;

    static {
        askOfThePeople();
        askOfTheLaws();
        askOfForms();
        askOfHabitsAndLines();
        askOfTheRest();
        askOfSheets();
        askByChanging();
    }

    Scene(Check check, String name) {
        this.check = check;
        this.name = name;
    }

    /** Eight people in all states, laws, forms read and not read, a line, a list, choices, sheets. */
    static Scene town(Check check) {
        Scene s = new Scene(check, "town");
        s.does(x -> x.person(0, 0, 8, 2, NONE), x -> x.person(0, 1, 4, 3, 0), x -> x.person(1, 1, 9, 0, 1),
                x -> x.person(5, 0, 20, 9, NONE), x -> x.person(2, 1, 0, 5, 0), x -> x.person(3, 0, 6, 4, NONE),
                x -> x.person(3, 1, 6, 4, 5), x -> x.person(4, 0, 3, 1, 5));
        s.types("q0=3;q1=2;s=4;w=10;q0=1@5");
        s.does(x -> x.sheet(0, 0, 3), x -> x.lay(0, 0, 0, 3), x -> x.lay(0, 0, 1, 2), x -> x.lay(0, 0, 2, -1));
        s.does(x -> x.sheet(1, 1, 2), x -> x.lay(1, 1, 0, 100), x -> x.lay(1, 1, 1, 7));
        s.does(x -> x.sheet(2, 2, 40), x -> x.lay(2, 2, 39, 5));
        for (int person : new int[] {0, 1, 2, 5, 6}) {
            s.does(x -> x.form(person, 0));
        }
        s.does(x -> x.read(3, 0, true, 0), x -> x.read(4, 0, true, 0), x -> x.read(1, 1, false, 1));
        s.does(x -> x.put(6, 2), x -> x.put(4, 3), x -> x.put(7, 4), x -> x.harsh(0, 3));
        s.does(x -> x.pass(2), x -> x.order(2, 1), x -> x.form(2, 0));
        s.does(x -> x.minutes(0, 1, 45), x -> x.office(3, 540, 660), x -> x.stand(1, 500), x -> x.stand(0, 550));
        s.does(x -> x.choice(false, 0, 5), x -> x.choice(true, 2, 3));
        s.does(x -> x.list(), x -> x.sheet(3, 0, -1));
        return s;
    }

    /** The same calls so far, to go on from. */
    Scene then(String more) {
        Scene s = new Scene(check, name + ", " + more);
        s.calls.addAll(calls);
        return s;
    }

    Scene does(Call... more) {
        calls.addAll(List.of(more));
        told = null;
        return this;
    }

    Scene times(int n, IntFunction<Call> more) {
        for (int i = 0; i < n; i++) {
            does(more.apply(i));
        }
        return this;
    }

    Scene types(String text) {
        return times(text.length(), i -> x -> x.type(text.charAt(i)));
    }

    Scene laws(String text) {
        return does(x -> x.wipe()).types(text);
    }

    /** Makes a sheet a row of ints. */
    Scene ints(int s, int... items) {
        does(x -> x.sheet(s, 2, items.length));
        return times(items.length, i -> x -> x.lay(s, 2, i, items[i]));
    }

    /** Puts persons on the roll, each by a form of its own that is passed; sheet 3 is used for it. */
    Scene enrolls(int firstForm, int... persons) {
        does(x -> x.sheet(3, 0, 0));
        return times(persons.length, i -> x -> x.form(persons[i], 3))
                .times(persons.length, i -> x -> x.read(firstForm + i, 3, true, 0));
    }

    FilledRoll play() {
        FilledRoll x = new FilledRoll();
        for (Call call : calls) {
            call.on(x);
        }
        return x;
    }

    void answers(String what, long want, Call call) {
        check.holds(name + ": more than 512 calls", calls.size() < CALLS);
        check.due(name + ": " + what, want, call.on(play()));
    }

    /** A refusal that is no finding: it changes nothing at all. */
    void refuses(String what, long want, Call call) {
        FilledRoll before = play();
        finds(what, want, before.count(9), call);
    }

    /** A refusal by a finding, or a refused get() with its finding: that is the latest, nothing else changes. */
    void finds(String what, long want, int finding, Call call) {
        FilledRoll x = play();
        check.due(name + ": " + what, want, call.on(x));
        check.due(name + ": " + what + ": the latest finding", finding, x.count(9));
        if (told == null) {
            told = all(null);
        }
        long[] now = all(call);
        for (int q = 0; q < now.length; q++) {
            if (now[q] != told[q]) {
                check.due(name + ": behind the refused " + what + " " + QUERIES.get(q).name, told[q], now[q]);
            }
        }
    }

    /** An argument's last values at both ends, with the answers due there; the first beyond them are BAD. */
    void range(String what, int least, long atLeast, int most, long atMost, IntFunction<Call> call) {
        answers(what + " with " + least, atLeast, call.apply(least));
        answers(what + " with " + most, atMost, call.apply(most));
        for (int beyond : new int[] {least - 1, most + 1, Integer.MIN_VALUE, Integer.MAX_VALUE}) {
            refuses(what + " with " + beyond, BAD, call.apply(beyond));
        }
    }

    /** All that can be asked behind the calls and one more, by as many fresh objects as it takes. */
    private long[] all(Call more) {
        long[] answers = new long[QUERIES.size()];
        // A question is two calls at most.
        int room = (CALLS - calls.size() - 1) / 2;
        check.holds(name + ": room for questions", room > 0);
        for (int from = 0; room > 0 && from < answers.length; from += room) {
            FilledRoll x = play();
            if (more != null) {
                more.on(x);
            }
            for (int q = from; q < answers.length && q < from + room; q++) {
                answers[q] = QUERIES.get(q).call.on(x);
            }
        }
        return answers;
    }

    private static void ask(String name, Call call) {
        QUERIES.add(new Query(name, call));
    }

    private static void askOfThePeople() {
        for (int i = 0; i <= 8; i++) {
            int what = i;
            ask("count " + what, x -> x.count(what));
        }
        ask("digest", x -> x.digest());
        for (int i = 0; i < 48 * 8; i++) {
            int person = i / 8;
            int what = i % 8;
            ask("about " + person + " " + what, x -> x.about(person, what));
        }
        for (int i = 0; i < 63; i++) {
            int beat = i / 9 - 1;
            int sort = i / 3 % 3 - 1;
            int state = i % 3;
            ask("roll " + beat + " " + sort + " " + state, x -> x.roll(beat, sort, state));
        }
    }

    private static void askOfTheLaws() {
        ask("fault", x -> x.fault());
        for (int day : new int[] {0, 4, 5, 399}) {
            for (int i = 0; i < 24; i++) {
                int what = i;
                ask("why " + what + " " + day, x -> x.why(what, day));
                ask("right or law " + what + " " + day, x -> what < 20 ? x.right(what, day) : x.law(what - 20, day));
            }
        }
    }

    private static void askOfForms() {
        for (int i = 0; i < 60 * 12; i++) {
            int form = i / 12;
            int what = i % 12;
            ask("formIs " + form + " " + what, x -> x.formIs(form, what));
        }
        for (int i = 0; i < 60 * 5; i++) {
            int form = i / 5;
            int question = i % 5 == 4 ? 19 : i % 5;
            ask("answer " + form + " " + question, x -> x.answer(form, question));
        }
        for (int i = 0; i < 9; i++) {
            int sort = i / 3 - 1;
            int what = i % 3;
            ask("parted " + sort + " " + what, x -> x.parted(sort, what));
        }
    }

    private static void askOfHabitsAndLines() {
        for (int i = 0; i < 4; i++) {
            int clerk = i;
            ask("rules " + clerk, x -> x.rules(clerk));
            ask("rule " + clerk, x -> x.rule(clerk, 0));
            ask("unlike " + clerk, x -> x.unlike(clerk));
            ask("proves " + clerk, x -> x.proves(clerk));
            for (int d = 0; d < 7; d++) {
                int day = d;
                ask("sees " + clerk + " " + day, x -> x.sees(clerk, day));
            }
        }
        for (int p = 0; p < 48; p++) {
            int person = p;
            ask("begun 0 0 " + person, x -> x.begun(0, 0, person));
            ask("begun 1 1 " + person, x -> x.begun(1, 1, person));
        }
    }

    private static void askOfTheRest() {
        for (int b = NONE; b < 6; b++) {
            int beat = b;
            ask("ready " + beat, x -> x.ready(beat));
            ask("helpers 12 " + beat, x -> x.helpers(12, beat));
            ask("chosen " + beat, x -> x.chosen(beat));
            ask("changed " + beat, x -> x.changed(beat));
            ask("wins " + beat, x -> x.wins(beat));
        }
        for (int i = 0; i < 30 * 4; i++) {
            int list = i / 4;
            int what = i % 4;
            ask("listIs " + list + " " + what, x -> x.listIs(list, what));
        }
        for (int p = 1; p <= 3; p++) {
            int needs = p;
            ask("ripe " + needs, x -> x.ripe(needs, 0, 399));
            ask("number " + 30 * needs, x -> x.number(30 * needs, 5, 2, 4));
        }
        for (int bits = 1; bits <= 128; bits *= 2) {
            int taken = 2 * bits - 1;
            for (int i = 0; i < 3; i++) {
                int what = i;
                ask("judge " + taken + " " + what, x -> x.judge(taken, what));
            }
        }
        // No question reads a form: an order that is taken back here is missed by none of them.
        for (int i = 0; i < 4; i++) {
            int clerk = i;
            ask("order " + clerk, x -> x.order(clerk, NONE));
        }
        ask("best 5", x -> x.best(5));
        ask("best 1000", x -> x.best(1000));
    }

    private static void askOfSheets() {
        // The items that are there in the town come first: a refused get() that changed some would tell on itself.
        int[] items = {3, 2, 40};
        for (int i = 0; i < 3; i++) {
            int s = i;
            for (int k = 0; k < items[s]; k++) {
                int item = k;
                ask("get " + s + " " + s + " " + item, x -> x.get(s, s, item));
            }
        }
        for (int i = 0; i < 4 * 3 * 41; i++) {
            int s = i / 123;
            int type = i / 41 % 3;
            int item = i % 41;
            ask("get " + s + " " + type + " " + item, x -> itemOrFinding(x, s, type, item));
        }
    }

    private static long itemOrFinding(FilledRoll x, int s, int type, int item) {
        long answer = x.get(s, type, item);
        return answer == Integer.MIN_VALUE ? answer - x.count(9) : answer;
    }

    /** What only a call tells that changes it; it comes last, and alike for both twins. */
    private static void askByChanging() {
        ask("asOf", x -> x.asOf(NONE));
        for (int i = 0; i < 4; i++) {
            int s = i;
            ask("lose " + s, x -> x.lose(s));
        }
        ask("leave", x -> x.leave());
        // The hours: who comes at every hour is seen from opening to closing.
        for (int i = 0; i < 24; i++) {
            int person = i;
            ask("stand " + person, x -> x.stand(person, 60 * person));
        }
        for (int i = 0; i < 4 * 8; i++) {
            int clerk = i / 8;
            int person = i % 8;
            ask("begun " + clerk + " " + person, x -> x.begun(clerk, 0, person));
            ask("sees " + clerk + " " + person, x -> x.sees(clerk, person));
        }
        for (int i = 0; i < 8; i++) {
            int clerk = i / 2;
            int sort = i % 2;
            ask("minutes " + clerk + " " + sort, x -> x.minutes(clerk, sort, 1));
        }
        ask("drop", x -> x.drop());
        ask("wipe", x -> x.wipe());
    }
}
