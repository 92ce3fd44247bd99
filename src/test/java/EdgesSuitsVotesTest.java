import java.util.ArrayList;
import java.util.List;

/** The edges of Terms 7 and of promises 36 to 41, sentence by sentence. */
final class EdgesSuitsVotesTest {
    private static final int NONE = -1, BAD = -2, NOT = -3;
    private static final Check CHECK = new Check("EdgesSuitsVotesTest");
    private static final Scene NEW = new Scene(CHECK, "new");
    private static final Scene TOWN = Scene.town(CHECK);

    private EdgesSuitsVotesTest() {
    }

    public static void main(String[] args) {
        thirtyPartedForms();
        ofSort1ThatWereRefused();
        handedInFromOneDayToAnother();
        theFirstDayAsOfWhich();
        ripeOnTheLastDay();
        ordersFromADayOn();
        someSchoolingOrSomeAnswersAreAsked();
        fewerThanPIn100();
        withAnyNumberBetween();
        nobodyIsOn();
        theSortWithMore();
        theFewestThatChangeIt();
        notSoMany();
        offOrStruckNow();
        overTheCounty();
        fullBeats();
        promise36();
        promise37();
        promise38();
        promise38Error();
        promise39();
        promise40();
        promise41();
        CHECK.end();
    }

    /** So many forms of sort 1 that are refused on the day, though by text they are to be passed. */
    private static Scene suit(int forms) {
        return NEW.then(forms + " refused").laws("n=0").does(x -> x.person(0, 1, 0, 0, NONE), x -> x.sheet(0, 0, 0))
                .times(forms, i -> x -> x.form(0, 0)).times(forms, i -> x -> x.read(i, i % 4, false, 4));
    }

    /** "A SUIT needs P PARTED FORMS (1 to 30)" */
    private static void thirtyPartedForms() {
        suit(29).answers("30 of 29", NONE, x -> x.ripe(30, 0, 399));
        suit(30).answers("30 of 30", 0, x -> x.ripe(30, 0, 399));
        suit(31).answers("30 of 31", 0, x -> x.ripe(30, 0, 399));
        suit(60).answers("30 of 60", 0, x -> x.ripe(30, 0, 399));
        suit(60).refuses("31 of 60", BAD, x -> x.ripe(31, 0, 399));
        suit(1).answers("1 of 1", 0, x -> x.ripe(1, 0, 399));
        suit(1).answers("2 of 1", NONE, x -> x.ripe(2, 0, 399));
        suit(0).answers("1 of none", NONE, x -> x.ripe(1, 0, 399));
        suit(0).refuses("none of none", BAD, x -> x.ripe(0, 0, 399));
    }

    /** "PARTED FORMS .. of SORT 1 that were REFUSED" */
    private static void ofSort1ThatWereRefused() {
        Scene s = NEW.then("four forms").laws("n=0;s=5").does(x -> x.person(0, 0, 5, 0, NONE), x -> x.person(0, 1, 4, 0, NONE),
                x -> x.person(0, 1, 5, 0, NONE), x -> x.sheet(0, 0, 0), x -> x.form(0, 0), x -> x.form(1, 0),
                x -> x.form(2, 0), x -> x.form(2, 0));
        s.then("of sort 0").does(x -> x.read(0, 0, false, 4)).answers("none", NONE, x -> x.ripe(1, 0, 399));
        s.then("not by text").does(x -> x.read(1, 0, false, 4)).answers("none", NONE, x -> x.ripe(1, 0, 399));
        s.then("not by text, passed").does(x -> x.read(1, 0, true, 4)).answers("none", NONE, x -> x.ripe(1, 0, 399));
        s.then("passed").does(x -> x.read(2, 0, true, 4)).answers("none", NONE, x -> x.ripe(1, 0, 399));
        s.then("refused").does(x -> x.read(2, 0, false, 4)).answers("one", 0, x -> x.ripe(1, 0, 399));
        s.then("refused, with a true reason").does(x -> x.read(3, 0, false, 1)).answers("one", 0, x -> x.ripe(1, 0, 399));
        s.answers("not read", NONE, x -> x.ripe(1, 0, 399));
    }

    /** A form on each of days 1, 3 and 5, refused on 6, 4 and 8. */
    private static Scene three() {
        return NEW.then("forms of 1, 3, 5, refused on 6, 4, 8").laws("n=0").does(x -> x.person(0, 1, 0, 0, NONE),
                x -> x.sheet(0, 0, 0), x -> x.pass(1), x -> x.form(0, 0), x -> x.pass(2), x -> x.form(0, 0),
                x -> x.pass(1), x -> x.read(1, 0, false, 0), x -> x.pass(1), x -> x.form(0, 0), x -> x.pass(1),
                x -> x.read(0, 1, false, 0), x -> x.pass(2), x -> x.read(2, 2, false, 0), x -> x.pass(1));
    }

    /** "handed in on DAYS from one to another" */
    private static void handedInFromOneDayToAnother() {
        int[][] cases = {{1, 5, 8}, {0, 399, 8}, {2, 5, NONE}, {1, 4, NONE}};
        for (int[] one : cases) {
            three().answers("3 from " + one[0] + " to " + one[1], one[2], x -> x.ripe(3, one[0], one[1]));
        }
        int[][] ones = {{1, 1, 6}, {0, 1, 6}, {1, 2, 6}, {2, 2, NONE}, {0, 0, NONE}, {3, 3, 4}, {2, 4, 4}, {4, 5, 8},
            {5, 5, 8}, {6, 399, NONE}, {399, 399, NONE}};
        for (int[] one : ones) {
            three().answers("1 from " + one[0] + " to " + one[1], one[2], x -> x.ripe(1, one[0], one[1]));
        }
    }

    /** "the first DAY as of which it has them (by the DAYS on which they were READ); NONE" */
    private static void theFirstDayAsOfWhich() {
        int[] first = {4, 6, 8, NONE};
        for (int i = 0; i < 4; i++) {
            int needs = i + 1;
            three().answers("needs " + needs, first[i], x -> x.ripe(needs, 0, 399));
        }
        three().then("asked before").does(x -> x.ripe(3, 0, 399)).answers("four", NONE, x -> x.ripe(4, 0, 399));
        int[] asOf = {3, 4, 5, 6, 7, 8, 9};
        int[] want = {NONE, NONE, NONE, 6, 6, 6, 6};
        for (int i = 0; i < asOf.length; i++) {
            int day = asOf[i];
            three().then("as of " + day).does(x -> x.asOf(day)).answers("two", want[i], x -> x.ripe(2, 0, 399));
        }
    }

    private static void ripeOnTheLastDay() {
        Scene s = suit(1).then("day 399").does(x -> x.pass(100), x -> x.pass(100), x -> x.pass(100), x -> x.pass(99),
                x -> x.form(0, 0), x -> x.read(1, 0, false, 4));
        s.answers("the second", 399, x -> x.ripe(2, 0, 399));
        s.answers("of the last day", 399, x -> x.ripe(1, 399, 399));
        s.answers("not of it", NONE, x -> x.ripe(2, 0, 398));
    }

    /** "AN ORDER in a CLERK's way, from a DAY on: from then on it may not refuse a FORM that BY TEXT is to be passed" */
    private static void ordersFromADayOn() {
        Scene s = NEW.then("order from 2").laws("n=0;k=2").does(x -> x.person(0, 1, 0, 0, NONE),
                x -> x.person(0, 0, 0, 0, NONE), x -> x.sheet(0, 0, 0), x -> x.form(0, 0), x -> x.form(1, 0),
                x -> x.order(3, 2), x -> x.pass(1));
        s.answers("the day before", 1, x -> x.read(0, 3, false, 4));
        s.does(x -> x.pass(1));
        for (int day = 2; day <= 3; day++) {
            s.refuses("on day " + day, NOT, x -> x.read(0, 3, false, 4));
            s.answers("to pass it", 1, x -> x.read(0, 3, true, 0));
            s.answers("one that is not to be passed", 1, x -> x.read(1, 3, false, 4));
            s.answers("another clerk", 1, x -> x.read(0, 0, false, 4));
            s.does(x -> x.pass(1));
        }
        s.then("none any more").does(x -> x.order(3, NONE)).answers("refused", 1, x -> x.read(0, 3, false, 4));
    }

    /** "some SCHOOLING or some answers are asked by LAW on a DAY (s above 0, or some answer is right)" */
    private static void someSchoolingOrSomeAnswersAreAsked() {
        String[] laws = {"", "s=0", "s=1", "s=99", "q0=0", "q19=99", "n=5", "k=1", "w=0", "s=0;q7=1", "s=1;s=0", "s=1;"};
        int[] falls = {0, 0, 2, 2, 2, 2, 0, 0, 0, 2, 0, 0};
        for (int i = 0; i < laws.length; i++) {
            NEW.then(laws[i]).laws(laws[i]).answers("falls", falls[i], x -> x.number(1, 1, 0, 0));
        }
        Scene s = NEW.then("asked from 5 to 9").laws("s=1@5;s=0@10;q0=1@399");
        int[] days = {0, 4, 5, 9, 10, 398, 399};
        int[] want = {0, 0, 2, 2, 0, 0, 2};
        for (int i = 0; i < days.length; i++) {
            int day = days[i];
            s.answers("on day " + day, want[i], x -> x.number(1, 1, 0, day));
        }
    }

    private static Scene on(int persons) {
        int[] all = new int[persons];
        for (int i = 0; i < persons; i++) {
            all[i] = i;
        }
        return NEW.then(persons + " ON").laws("s=1").times(persons, i -> x -> x.person(i % 6, i % 2, 0, 0, NONE))
                .enrolls(0, all);
    }

    /** "of its grown PERSONS by a census fewer than p in 100 .. are ON" */
    private static void fewerThanPIn100() {
        int[][] cases = {{50, 10, 0}, {51, 10, 2}, {50, 11, 2}, {49, 10, 0}, {49, 11, 2}, {100, 5, 0}, {100, 6, 2},
            {100, 1, 0}, {1, 500, 0}, {1, 501, 2}, {1, 1000, 2}, {99, 5, 0}, {100, 1000, 2}};
        for (int[] one : cases) {
            on(5).answers("5 of " + one[1] + ", " + one[0] + " in 100", one[2], x -> x.number(one[0], one[1], 0, 0));
        }
        Scene struck = on(5).then("one struck").does(x -> x.put(0, 2));
        struck.answers("4 of 10, 41 in 100", 2, x -> x.number(41, 10, 0, 0));
        struck.answers("4 of 10, 40 in 100", 0, x -> x.number(40, 10, 0, 0));
        on(48).answers("all of 48", 0, x -> x.number(100, 48, 0, 0));
        on(48).answers("all but one", 2, x -> x.number(100, 49, 0, 0));
    }

    /** "SURE, if it falls with any number between; MAY BE, if with some." */
    private static void withAnyNumberBetween() {
        int[][] cases = {{9, 1, 0}, {10, 1, 1}, {11, 1, 1}, {12, 1, 2}, {10, 0, 0}, {11, 0, 2}, {6, 4, 0}, {6, 5, 1},
            {20, 9, 2}, {20, 10, 1}, {110, 99, 2}, {110, 100, 1}, {1000, 100, 2}, {101, 100, 1}};
        for (int[] one : cases) {
            on(5).answers("5 of " + one[0] + " by " + one[1], one[2], x -> x.number(50, one[0], one[1], 0));
        }
    }

    private static void nobodyIsOn() {
        NEW.then("s=1").laws("s=1").answers("fewer than any", 2, x -> x.number(1, 1, 0, 0));
        NEW.answers("nothing is asked", 0, x -> x.number(100, 1000, 100, 0));
    }

    /** Beats of so many: the beat, ON of sort 0, ON of sort 1, OFF of sort 0, OFF of sort 1. */
    private static Scene votes(String name, int[]... beats) {
        Scene s = NEW.then(name).laws("n=0");
        List<Integer> on = new ArrayList<>();
        int persons = 0;
        for (int[] one : beats) {
            for (int kind = 0; kind < 4; kind++) {
                int sort = kind % 2;
                s.times(one[kind + 1], i -> x -> x.person(one[0], sort, 0, 0, NONE));
                for (int i = 0; i < one[kind + 1]; i++) {
                    if (kind < 2) {
                        on.add(persons);
                    }
                    persons++;
                }
            }
        }
        return s.enrolls(0, on.stream().mapToInt(i -> i).toArray());
    }

    /** "CHOSEN is the SORT with more (NONE of like ones)" */
    private static void theSortWithMore() {
        int[][] cases = {{0, 0, NONE}, {1, 0, 0}, {0, 1, 1}, {3, 3, NONE}, {4, 3, 0}, {3, 4, 1}};
        for (int[] one : cases) {
            Scene s = votes(one[0] + " and " + one[1], new int[] {5, one[0], one[1], 9, 9});
            s.answers("chosen", one[2], x -> x.chosen(5));
            s.answers("another beat", NONE, x -> x.chosen(4));
        }
    }

    /** "the fewest PERSONS of the BEAT .. who being ON, too, would have a SORT CHOSEN that is not now" */
    private static void theFewestThatChangeIt() {
        int[][] cases = {{0, 0, 1, 0, 1}, {0, 0, 0, 1, 1}, {2, 2, 5, 5, 1}, {3, 1, 5, 5, 3}, {1, 3, 5, 5, 3},
            {1, 0, 5, 5, 2}, {0, 1, 5, 5, 2}, {9, 0, 0, 10, 10}, {1, 0, 9, 2, 2}};
        for (int[] one : cases) {
            votes(one[0] + ", " + one[1] + ", " + one[2] + ", " + one[3], new int[] {0, one[0], one[1], one[2], one[3]})
                    .answers("changed", one[4], x -> x.changed(0));
        }
    }

    /** "NONE: there are not so many." */
    private static void notSoMany() {
        int[][] cases = {{0, 0, 0, 0}, {1, 1, 0, 0}, {3, 1, 9, 2}, {1, 3, 2, 9}, {1, 0, 9, 1}, {0, 1, 1, 9}, {9, 0, 0, 9}};
        for (int[] one : cases) {
            Scene s = votes(one[0] + ", " + one[1] + ", " + one[2] + ", " + one[3],
                    new int[] {0, one[0], one[1], one[2], one[3]}, new int[] {1, 0, 0, 5, 5});
            s.answers("not so many", NONE, x -> x.changed(0));
        }
    }

    /** "PERSONS of the BEAT, OFF or STRUCK now" */
    private static void offOrStruckNow() {
        Scene s = votes("1 and 2", new int[] {2, 1, 2, 0, 0});
        s.answers("nobody is OFF", NONE, x -> x.changed(2));
        s.then("one struck").does(x -> x.put(1, 2)).answers("the STRUCK one", 1, x -> x.changed(2));
        s.then("one GONE").does(x -> x.put(1, 3)).answers("not a GONE one", NONE, x -> x.changed(2));
        s.then("one DEAD").does(x -> x.put(1, 4)).answers("nor a DEAD one", NONE, x -> x.changed(2));
        Scene moved = votes("3 and 0", new int[] {2, 3, 0, 0, 3}).then("one more comes").does(
                x -> x.person(4, 1, 0, 0, NONE));
        moved.answers("3 are not so many", NONE, x -> x.changed(2));
        moved.then("moved there").does(x -> x.move(6, 2)).answers("4 are", 4, x -> x.changed(2));
    }

    /** "the fewest such PERSONS by whom SORT 1 would be CHOSEN in at least w BEATS (0 to 6); NONE" */
    private static void overTheCounty() {
        Scene s = votes("of all kinds", new int[] {0, 3, 0, 0, 4}, new int[] {1, 0, 1, 3, 0}, new int[] {2, 2, 0, 0, 3},
                new int[] {3, 2, 2, 0, 1}, new int[] {4, 0, 0, 0, 1}, new int[] {5, 2, 1, 5, 1});
        int[] want = {0, 0, 1, 2, 5, 9, NONE};
        for (int i = 0; i <= 6; i++) {
            int beats = i;
            s.answers("in " + beats, want[beats], x -> x.wins(beats));
        }
        s.then("one more").does(x -> x.person(5, 1, 0, 0, NONE)).answers("in all", 11, x -> x.wins(6));
        Scene won = votes("won", new int[] {0, 0, 1, 0, 0}, new int[] {1, 0, 1, 0, 0}, new int[] {2, 0, 1, 0, 0},
                new int[] {3, 0, 1, 0, 0}, new int[] {4, 0, 1, 0, 0}, new int[] {5, 0, 1, 0, 0});
        won.answers("all six", 0, x -> x.wins(6));
        won.then("one struck").does(x -> x.put(5, 2)).answers("all six", 1, x -> x.wins(6));
        won.then("one DEAD").does(x -> x.put(5, 4)).answers("five", 0, x -> x.wins(5));
        won.then("one DEAD").does(x -> x.put(5, 4)).answers("six", NONE, x -> x.wins(6));
        for (int i = 0; i <= 6; i++) {
            int beats = i;
            NEW.answers("nobody there, " + beats, beats == 0 ? 0 : NONE, x -> x.wins(beats));
        }
    }

    /** Full: all that can live in the county, in one beat. */
    private static void fullBeats() {
        Scene s = votes("23 and 25", new int[] {3, 23, 0, 0, 25});
        s.answers("24 of 25", 24, x -> x.changed(3));
        s.answers("24 of 25", 24, x -> x.wins(1));
        Scene even = votes("24 and 24", new int[] {3, 24, 0, 0, 24});
        even.answers("24 are not so many", NONE, x -> x.changed(3));
        even.answers("24 are not so many", NONE, x -> x.wins(1));
        votes("all ON", new int[] {3, 24, 24, 0, 0}).answers("like ones", NONE, x -> x.chosen(3));
        votes("all ON", new int[] {3, 23, 25, 0, 0}).answers("of 25", 1, x -> x.chosen(3));
    }

    /** "RIPE, of a SUIT that needs P FORMS handed in from a DAY to another; NONE. BAD." */
    private static void promise36() {
        TOWN.range("needs", 1, 0, 30, NONE, n -> x -> x.ripe(n, 0, 399));
        TOWN.range("from", 0, 0, 399, NONE, n -> x -> x.ripe(1, n, 399));
        TOWN.range("to", 0, 0, 399, 0, n -> x -> x.ripe(1, 0, n));
        TOWN.answers("from a day to itself", NONE, x -> x.ripe(1, 5, 5));
        TOWN.refuses("back", BAD, x -> x.ripe(1, 5, 4));
        TOWN.refuses("far back", BAD, x -> x.ripe(1, 399, 0));
        NEW.answers("no forms", NONE, x -> x.ripe(1, 0, 399));
    }

    /** "from a DAY on (NONE: none any more): from when it was (NONE). BAD." */
    private static void promise37() {
        TOWN.range("clerk", 0, NONE, 3, NONE, n -> x -> x.order(n, 5));
        TOWN.range("day", NONE, 1, 399, 1, n -> x -> x.order(2, n));
        for (int day : new int[] {NONE, 0, 399}) {
            TOWN.then("from " + day).does(x -> x.order(2, day)).answers("what it was", day, x -> x.order(2, 7));
        }
        for (int i = 0; i < 4; i++) {
            int clerk = i;
            NEW.answers("none at first", NONE, x -> x.order(clerk, 0));
        }
    }

    /** "by a census with an error, by LAW on a DAY: 2 SURE, 1 MAY BE, 0 neither. BAD" */
    private static void promise38() {
        Scene s = TOWN.then("one ON");
        s.range("p", 1, 0, 100, 2, n -> x -> x.number(n, 100, 0, 0));
        s.range("census", 1, 0, 1000, 2, n -> x -> x.number(50, n, 0, 0));
        s.range("error", 0, 2, 100, 2, n -> x -> x.number(50, 1000, n, 0));
        s.range("day", 0, 2, 399, 2, n -> x -> x.number(50, 100, 0, n));
    }

    /** "BAD: also an error not below the census." */
    private static void promise38Error() {
        int[][] cases = {{1, 0, 2}, {1, 1, BAD}, {2, 1, 2}, {2, 2, BAD}, {100, 99, 2}, {100, 100, BAD}, {101, 100, 2},
            {99, 100, BAD}};
        Scene s = NEW.then("s=1").laws("s=1");
        for (int[] one : cases) {
            s.answers("census " + one[0] + ", error " + one[1], one[2], x -> x.number(50, one[0], one[1], 0));
        }
        s.refuses("as much", BAD, x -> x.number(50, 10, 10, 0));
        s.refuses("more", BAD, x -> x.number(50, 10, 11, 0));
        NEW.refuses("though nothing is asked", BAD, x -> x.number(50, 10, 10, 0));
    }

    /** "CHOSEN in a BEAT; NONE. BAD." */
    private static void promise39() {
        Scene s = votes("0 by one, 5 by the other", new int[] {0, 2, 0, 0, 0}, new int[] {5, 1, 2, 0, 0});
        s.range("beat", 0, 0, 5, 1, n -> x -> x.chosen(n));
        s.answers("nobody is there", NONE, x -> x.chosen(1));
        NEW.refuses("NONE", BAD, x -> x.chosen(NONE));
    }

    /** "CHANGED in a BEAT; NONE. BAD." */
    private static void promise40() {
        Scene s = votes("in 0 and 5", new int[] {0, 2, 0, 0, 3}, new int[] {5, 1, 2, 2, 0});
        s.range("beat", 0, 3, 5, 2, n -> x -> x.changed(n));
        s.answers("nobody is there", NONE, x -> x.changed(1));
    }

    /** "CHANGED over the county, for w BEATS; NONE. BAD." */
    private static void promise41() {
        TOWN.range("beats", 0, 0, 6, NONE, n -> x -> x.wins(n));
        TOWN.answers("one: of beat 0 or 1", 1, x -> x.wins(1));
        TOWN.answers("two", 2, x -> x.wins(2));
        TOWN.answers("three", NONE, x -> x.wins(3));
    }
}
