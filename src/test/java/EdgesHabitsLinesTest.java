/** The edges of Terms 4 and of promises 21 to 30, sentence by sentence. */
final class EdgesHabitsLinesTest {
    private static final int NONE = -1, BAD = -2, FULL = -4;
    private static final int MOST = Integer.MAX_VALUE;
    private static final Check CHECK = new Check("EdgesHabitsLinesTest");
    private static final Scene NEW = new Scene(CHECK, "new");
    private static final Scene TOWN = Scene.town(CHECK);
    /** One of each sort; 20 QUESTIONS, of all of which 0 is right; a row of 20 items in sheet 0. */
    private static final Scene ASKED = NEW.then("20 questions").laws("q0=0;q1=0;q2=0;q3=0;q4=0;q5=0;q6=0;q7=0;q8=0;"
            + "q9=0;q10=0;q11=0;q12=0;q13=0;q14=0;q15=0;q16=0;q17=0;q18=0;q19=0").does(
            x -> x.person(0, 0, 0, 0, NONE), x -> x.person(0, 1, 0, 0, NONE), x -> x.sheet(0, 0, 20));

    private EdgesHabitsLinesTest() {
    }

    public static void main(String[] args) {
        rulesFrom0To21();
        passedAtMostThat();
        refusedMoreThanThat();
        justThoseWerePassed();
        unlikePairs();
        unlikeOfUnlikeSorts();
        allPairs();
        minutesFor();
        daysModulo7();
        hoursAtFirst();
        fromAMinuteToAnother();
        twentyFourInALine();
        likeMinutesAsTold();
        begunAtTheGreatest();
        doneByClosing();
        theFirstThatWouldNotBeEndsIt();
        promise21();
        promise22();
        promise23();
        promise24();
        promise25();
        promise26();
        promise27();
        promise28();
        promise29();
        promise30();
        CHECK.end();
    }

    /** A form of a person with so many right ones, read by clerk 0. */
    private static Scene judged(Scene from, int form, int person, int right, boolean passed) {
        return from.then("form " + form + " of " + person + " with " + right + (passed ? " passed" : " refused"))
                .does(x -> x.sheet(0, 0, 20)).times(20 - right, i -> x -> x.lay(0, 0, 19 - i, 1))
                .does(x -> x.form(person, 0), x -> x.read(form, 0, passed, 4));
    }

    /** "rules a, b (0 to 21 each)" */
    private static void rulesFrom0To21() {
        NEW.answers("all", 22 * 22, x -> x.rules(0));
        NEW.answers("the first", 0, x -> x.rule(0, 0));
        NEW.answers("the last of a = 0", 21, x -> x.rule(0, 21));
        NEW.answers("the first of a = 1", 100, x -> x.rule(0, 22));
        NEW.answers("the last", 2121, x -> x.rule(0, 483));
        NEW.answers("none behind it", NONE, x -> x.rule(0, 484));
    }

    /** "it passes a FORM of a PERSON of SORT 0, if it has a or more RIGHT ones" */
    private static void passedAtMostThat() {
        for (int right : new int[] {0, 1, 19, 20}) {
            Scene zero = judged(ASKED, 0, 0, right, true);
            zero.answers("right ones", right, x -> x.formIs(0, 3));
            zero.answers("a is 0 to that", (right + 1) * 22, x -> x.rules(0));
            zero.answers("the last", 100 * right + 21, x -> x.rule(0, (right + 1) * 22 - 1));
            zero.answers("none behind it", NONE, x -> x.rule(0, (right + 1) * 22));
            Scene one = judged(ASKED, 0, 1, right, true);
            one.answers("b is 0 to that", (right + 1) * 22, x -> x.rules(0));
            one.answers("the last of a = 0", right, x -> x.rule(0, right));
            one.answers("the first of a = 1", 100, x -> x.rule(0, right + 1));
        }
    }

    /** A refused one has fewer; of 20 right ones 21 is more than can be. */
    private static void refusedMoreThanThat() {
        for (int right : new int[] {0, 1, 19, 20}) {
            Scene zero = judged(ASKED, 0, 0, right, false);
            zero.answers("a is more", (21 - right) * 22, x -> x.rules(0));
            zero.answers("the first", 100 * (right + 1), x -> x.rule(0, 0));
            Scene one = judged(ASKED, 0, 1, right, false);
            one.answers("b is more", (21 - right) * 22, x -> x.rules(0));
            one.answers("the first", right + 1, x -> x.rule(0, 0));
        }
        Scene both = judged(judged(ASKED, 0, 0, 20, false), 1, 1, 20, false);
        both.answers("one rule is left", 1, x -> x.rules(0));
        both.answers("it passes none", 2121, x -> x.rule(0, 0));
        both.answers("none behind it", NONE, x -> x.rule(0, 1));
        Scene all = judged(judged(ASKED, 0, 0, 0, true), 1, 1, 0, true);
        all.answers("one rule is left", 1, x -> x.rules(0));
        all.answers("it passes all", 0, x -> x.rule(0, 0));
    }

    /** "A rule FITS, if of all that it READ just those were PASSED." */
    private static void justThoseWerePassed() {
        Scene refused = judged(ASKED, 0, 0, 5, false);
        judged(refused, 1, 0, 6, true).answers("a is 6", 22, x -> x.rules(0));
        Scene none = judged(refused, 1, 0, 5, true);
        none.answers("no rule", 0, x -> x.rules(0));
        none.answers("no first", NONE, x -> x.rule(0, 0));
        none.answers("other clerks", 484, x -> x.rules(1));
        judged(refused, 1, 1, 5, true).answers("of the other sort", 16 * 6, x -> x.rules(0));
        ASKED.then("one not read").does(x -> x.form(0, 0)).answers("it counts nothing", 484, x -> x.rules(0));
    }

    /** "the REFUSED one with as many RIGHT ones or more" */
    private static void unlikePairs() {
        for (int right = 4; right <= 6; right++) {
            Scene s = judged(judged(ASKED, 0, 0, 5, true), 1, 1, right, false);
            s.answers("pairs", right >= 5 ? 1 : 0, x -> x.unlike(0));
            s.answers("the first", right >= 5 ? 1 : NONE, x -> x.proves(0));
            Scene other = judged(judged(ASKED, 0, 0, right, false), 1, 1, 5, true);
            other.answers("pairs", right >= 5 ? 1 : 0, x -> x.unlike(0));
            other.answers("the first", right >= 5 ? 100 : NONE, x -> x.proves(0));
        }
    }

    /** "two FORMS it READ, of unlike SORTS, one PASSED, one REFUSED" */
    private static void unlikeOfUnlikeSorts() {
        judged(judged(ASKED, 0, 0, 5, true), 1, 0, 5, false).answers("like sorts", 0, x -> x.unlike(0));
        judged(judged(ASKED, 0, 0, 5, true), 1, 1, 5, true).answers("both passed", 0, x -> x.unlike(0));
        judged(judged(ASKED, 0, 0, 5, false), 1, 1, 5, false).answers("both refused", 0, x -> x.unlike(0));
        Scene open = judged(ASKED, 0, 0, 5, true).then("one not read").does(x -> x.form(1, 0));
        open.answers("one not read", 0, x -> x.unlike(0));
        Scene two = open.then("another clerk's").does(x -> x.read(1, 1, false, 4));
        two.answers("clerk 0", 0, x -> x.unlike(0));
        two.answers("clerk 1", 0, x -> x.unlike(1));
    }

    /** Full: 60 forms, a half passed, a half refused; the last of the first that is passed. */
    private static void allPairs() {
        Scene s = new Scene(CHECK, "60 forms").does(x -> x.person(0, 0, 0, 0, NONE), x -> x.person(0, 1, 0, 0, NONE),
                x -> x.sheet(0, 0, 0)).times(60, i -> x -> x.form(i / 30, 0));
        Scene all = s.then("the later half passed").times(60, i -> x -> x.read(i, 0, i >= 30, 4));
        all.answers("pairs", 900, x -> x.unlike(0));
        all.answers("the first", 3000, x -> x.proves(0));
        Scene last = s.then("the last passed, the one before 30 refused").does(x -> x.read(59, 2, true, 4),
                x -> x.read(29, 2, false, 4));
        last.answers("pairs", 1, x -> x.unlike(2));
        last.answers("the first", 5929, x -> x.proves(2));
    }

    /** "CLERKS 0 .. 3 take so many minutes for a form of each SORT (1 to 120; 20 at first)" */
    private static void minutesFor() {
        for (int i = 0; i < 8; i++) {
            int clerk = i / 2;
            int sort = i % 2;
            NEW.answers("at first", 20, x -> x.minutes(clerk, sort, 1));
        }
        Scene s = ASKED.then("two in line").does(x -> x.stand(0, 600), x -> x.stand(1, 600));
        s.answers("behind 20 minutes", 620, x -> x.begun(3, 0, 1));
        s.then("120").does(x -> x.minutes(3, 0, 120)).answers("behind the most", 720, x -> x.begun(3, 0, 1));
        s.then("1").does(x -> x.minutes(3, 0, 1)).answers("behind the least", 601, x -> x.begun(3, 0, 1));
        s.then("of sort 1").does(x -> x.minutes(3, 1, 120)).answers("not of its sort", 620, x -> x.begun(3, 0, 1));
    }

    /** "the office is open on DAYS modulo 7 told by bits (0 to 127; 1 at first)" */
    private static void daysModulo7() {
        Scene s = ASKED.then("one in line").does(x -> x.stand(0, 600));
        int[] days = {0, 1, 6, 7, 8, 13, 14, 392, 398, 399};
        for (int day : days) {
            s.answers("at first on day " + day, day % 7 == 0 ? 1 : 0, x -> x.sees(0, day));
            s.answers("on every day: " + day, 1, x -> {
                x.office(127, 540, 1020);
                return x.sees(0, day);
            });
            s.answers("on no day: " + day, 0, x -> {
                x.office(0, 540, 1020);
                return x.sees(0, day);
            });
            s.answers("on day 6: " + day, day % 7 == 6 ? 1 : 0, x -> {
                x.office(64, 540, 1020);
                return x.sees(0, day);
            });
            s.answers("not on day 6: " + day, day % 7 == 6 ? NONE : 600, x -> {
                x.office(63, 540, 1020);
                return x.begun(0, day, 0);
            });
        }
    }

    /** "540 to 1020 at first" */
    private static void hoursAtFirst() {
        int[] comes = {0, 539, 540, 541, 1000, 1001, 1439};
        int[] begun = {540, 540, 540, 541, 1000, NONE, NONE};
        for (int i = 0; i < comes.length; i++) {
            int minute = comes[i];
            Scene s = ASKED.then("come at " + minute).does(x -> x.stand(0, minute));
            s.answers("begun", begun[i], x -> x.begun(0, 0, 0));
            s.answers("seen", begun[i] == NONE ? 0 : 1, x -> x.sees(0, 0));
        }
    }

    /** "from a minute to another of the day (0 to 1439)" */
    private static void fromAMinuteToAnother() {
        Scene s = ASKED.then("one minute for sort 0").does(x -> x.minutes(0, 0, 1));
        Scene last = s.then("the last minute").does(x -> x.office(1, 1438, 1439));
        last.then("come at 1438").does(x -> x.stand(0, 1438)).answers("seen", 1438, x -> x.begun(0, 0, 0));
        last.then("come at 1439").does(x -> x.stand(0, 1439)).answers("not seen", NONE, x -> x.begun(0, 0, 0));
        last.then("come at 0").does(x -> x.stand(0, 0)).answers("seen at opening", 1438, x -> x.begun(0, 0, 0));
        Scene first = s.then("the first minute").does(x -> x.office(1, 0, 1));
        first.then("come at 0").does(x -> x.stand(0, 0)).answers("seen", 0, x -> x.begun(0, 0, 0));
        first.then("come at 1").does(x -> x.stand(0, 1)).answers("not seen", 0, x -> x.sees(0, 0));
        Scene slow = first.then("two minutes").does(x -> x.minutes(0, 0, 2), x -> x.stand(0, 0));
        slow.answers("not done by closing", 0, x -> x.sees(0, 0));
    }

    private static Scene queue(int persons) {
        return new Scene(CHECK, persons + " in line").times(26, i -> x -> x.person(0, 0, 0, 0, NONE))
                .times(persons, i -> x -> x.stand(i, 540 + i));
    }

    /** "In a LINE stand PERSONS (24 at most)" */
    private static void twentyFourInALine() {
        queue(23).answers("the last", 24, x -> x.stand(25, 0));
        Scene full = queue(24);
        full.answers("stand there", 24, x -> x.count(6));
        full.answers("all are seen", 24, x -> x.sees(0, 0));
        full.answers("the last", 540 + 23 * 20, x -> x.begun(0, 0, 23));
        full.refuses("a 25th", FULL, x -> x.stand(24, 0));
        full.then("closing before it").does(x -> x.office(1, 540, 1019)).answers("all but one", 23, x -> x.sees(0, 0));
    }

    /** "of like ones as they were told" */
    private static void likeMinutesAsTold() {
        Scene s = new Scene(CHECK, "five in line").times(5, i -> x -> x.person(0, 0, 0, 0, NONE)).does(
                x -> x.stand(3, 600), x -> x.stand(1, 600), x -> x.stand(4, 599), x -> x.stand(0, 600),
                x -> x.stand(2, 599));
        int[] begun = {679, 659, 619, 639, 599};
        for (int i = 0; i < 5; i++) {
            int person = i;
            s.answers("begun " + person, begun[person], x -> x.begun(0, 0, person));
        }
        Scene sorts = ASKED.then("the quick one comes ahead").does(x -> x.person(0, 0, 0, 0, NONE),
                x -> x.minutes(0, 1, 45), x -> x.stand(2, 601), x -> x.stand(1, 600), x -> x.stand(0, 599));
        sorts.answers("behind the quick one", 619, x -> x.begun(0, 0, 1));
        sorts.answers("behind the slow one", 664, x -> x.begun(0, 0, 2));
    }

    /** "one is BEGUN at the greatest of its minute, opening, and when the one before was done" */
    private static void begunAtTheGreatest() {
        for (int minute : new int[] {559, 560, 561}) {
            Scene s = ASKED.then("at 500 and " + minute).does(x -> x.stand(0, 500), x -> x.stand(1, minute));
            s.answers("at opening", 540, x -> x.begun(0, 0, 0));
            s.answers("its minute or behind", Math.max(560, minute), x -> x.begun(0, 0, 1));
        }
    }

    /** "it is seen, if it is done .. by closing" */
    private static void doneByClosing() {
        Scene s = ASKED.then("two of 20 and 45").does(x -> x.minutes(0, 1, 45), x -> x.stand(0, 100), x -> x.stand(1, 100));
        for (int closing = 164; closing <= 166; closing++) {
            int to = closing;
            Scene until = s.then("until " + to).does(x -> x.office(1, 100, to));
            until.answers("seen", to >= 165 ? 2 : 1, x -> x.sees(0, 0));
            until.answers("the second", to >= 165 ? 120 : NONE, x -> x.begun(0, 0, 1));
        }
        s.then("until 120").does(x -> x.office(1, 100, 120)).answers("one", 1, x -> x.sees(0, 0));
        s.then("until 119").does(x -> x.office(1, 100, 119)).answers("none", 0, x -> x.sees(0, 0));
    }

    /** "the first that would not be ends it: those behind are not seen either" */
    private static void theFirstThatWouldNotBeEndsIt() {
        Scene s = ASKED.then("a slow one ahead").does(x -> x.minutes(0, 1, 120), x -> x.minutes(0, 0, 1),
                x -> x.office(1, 0, 119), x -> x.stand(1, 0), x -> x.stand(0, 0));
        s.answers("nobody is seen", 0, x -> x.sees(0, 0));
        s.answers("not the slow one", NONE, x -> x.begun(0, 0, 1));
        s.answers("nor the one behind", NONE, x -> x.begun(0, 0, 0));
        s.answers("another clerk sees both", 2, x -> x.sees(1, 0));
    }

    /** "How many rules a, b FIT a CLERK. BAD." */
    private static void promise21() {
        // Clerk 0 passed one of each sort with two right ones, clerk 1 refused one of sort 1.
        TOWN.range("clerk", 0, 9, 3, 484, n -> x -> x.rules(n));
        TOWN.answers("b above 2", 22 * 19, x -> x.rules(1));
    }

    /** "The i-th rule that FITS, by a, then b: 100 times a and b; NONE. BAD: also i below 0." */
    private static void promise22() {
        TOWN.range("clerk", 0, 0, 3, 0, n -> x -> x.rule(n, 0));
        int[] rules = {0, 1, 2, 100, 101, 102, 200, 201, 202, NONE, NONE};
        for (int i = 0; i < rules.length; i++) {
            int at = i;
            TOWN.answers("rule " + at, rules[at], x -> x.rule(0, at));
        }
        TOWN.answers("far behind", NONE, x -> x.rule(0, MOST));
        TOWN.refuses("below 0", BAD, x -> x.rule(0, -1));
        TOWN.refuses("far below 0", BAD, x -> x.rule(0, Integer.MIN_VALUE));
        TOWN.answers("the first above 2", 3, x -> x.rule(1, 0));
        TOWN.answers("the last", 2121, x -> x.rule(1, 22 * 19 - 1));
        TOWN.answers("behind it", NONE, x -> x.rule(1, 22 * 19));
    }

    private static Scene clerk3Refuses() {
        return TOWN.then("clerk 3 refuses").does(x -> x.read(0, 3, true, 0), x -> x.read(2, 3, false, 0),
                x -> x.read(5, 3, false, 0));
    }

    /** "How many UNLIKE pairs a CLERK has. BAD." */
    private static void promise23() {
        TOWN.range("clerk", 0, 0, 3, 0, n -> x -> x.unlike(n));
        clerk3Refuses().range("clerk", 0, 0, 3, 2, n -> x -> x.unlike(n));
    }

    /** "The first of them by the PASSED, then the REFUSED FORM: 100 times the former and the latter; NONE. BAD." */
    private static void promise24() {
        TOWN.range("clerk", 0, NONE, 3, NONE, n -> x -> x.proves(n));
        clerk3Refuses().range("clerk", 0, NONE, 3, 2, n -> x -> x.proves(n));
    }

    /** "Minutes of a CLERK for a SORT: what they were. BAD." */
    private static void promise25() {
        TOWN.range("clerk", 0, 45, 3, 20, n -> x -> x.minutes(n, 1, 30));
        TOWN.range("sort", 0, 20, 1, 45, n -> x -> x.minutes(0, n, 30));
        TOWN.range("minutes", 1, 45, 120, 45, n -> x -> x.minutes(0, 1, n));
        for (int minutes : new int[] {1, 120}) {
            Scene s = TOWN.then("minutes " + minutes).does(x -> x.minutes(0, 1, minutes));
            s.answers("what they were", minutes, x -> x.minutes(0, 1, 2));
            s.answers("of the other sort", 20, x -> x.minutes(0, 0, 2));
            s.answers("of another clerk", 20, x -> x.minutes(1, 1, 2));
        }
    }

    /** "open on DAYS (bits), from a minute to another (the former below the latter): 1. BAD." */
    private static void promise26() {
        TOWN.range("days", 0, 1, 127, 1, n -> x -> x.office(n, 0, 1439));
        TOWN.range("from", 0, 1, 1438, 1, n -> x -> x.office(1, n, 1439));
        TOWN.range("to", 1, 1, 1439, 1, n -> x -> x.office(1, 0, n));
        TOWN.answers("a minute", 1, x -> x.office(1, 700, 701));
        TOWN.refuses("no minute", BAD, x -> x.office(1, 700, 700));
        TOWN.refuses("back", BAD, x -> x.office(1, 701, 700));
        TOWN.refuses("no minute at the end", BAD, x -> x.office(1, 1439, 1439));
        TOWN.refuses("no minute at the beginning", BAD, x -> x.office(1, 0, 0));
        TOWN.refuses("beyond the day", BAD, x -> x.office(1, 1440, 1441));
        TOWN.refuses("before the day", BAD, x -> x.office(1, -2, -1));
    }

    /** "A PERSON stands in the LINE, come at a minute: how many stand there. BAD: also one who stands there; FULL." */
    private static void promise27() {
        ASKED.range("person", 0, 1, 1, 1, n -> x -> x.stand(n, 0));
        TOWN.range("minute", 0, 3, 1439, 3, n -> x -> x.stand(2, n));
        TOWN.refuses("one who stands there", BAD, x -> x.stand(0, 550));
        TOWN.refuses("at another minute", BAD, x -> x.stand(1, 0));
        Scene full = queue(24);
        full.refuses("BAD ahead of FULL: stands there", BAD, x -> x.stand(23, 0));
        full.refuses("BAD ahead of FULL: person", BAD, x -> x.stand(26, 0));
        full.refuses("BAD ahead of FULL: minute", BAD, x -> x.stand(24, 1440));
        full.refuses("FULL", FULL, x -> x.stand(25, 1439));
        Scene town = TOWN.then("22 more in line").times(18, i -> x -> x.person(0, 1, 0, 0, NONE))
                .times(22, i -> x -> x.stand(i + 2, 541 + i));
        town.answers("in line", 24, x -> x.count(6));
        town.refuses("FULL", FULL, x -> x.stand(25, 560));
        NEW.refuses("nobody", BAD, x -> x.stand(0, 0));
        NEW.then("a GONE one").does(x -> x.person(0, 0, 0, 0, NONE), x -> x.put(0, 3))
                .answers("nothing is told against it", 1, x -> x.stand(0, 0));
    }

    /** "The LINE is empty: how many stood there." */
    private static void promise28() {
        NEW.answers("nobody", 0, x -> x.leave());
        TOWN.answers("two", 2, x -> x.leave());
        queue(24).answers("all", 24, x -> x.leave());
        Scene empty = queue(24).then("left").does(x -> x.leave());
        empty.answers("nobody any more", 0, x -> x.leave());
        empty.answers("nobody", 0, x -> x.count(6));
        empty.answers("nobody is seen", 0, x -> x.sees(0, 0));
        empty.refuses("nobody stands there", BAD, x -> x.begun(0, 0, 0));
        empty.answers("anew", 1, x -> x.stand(0, 0));
    }

    /** "How many a CLERK sees on a DAY. BAD." */
    private static void promise29() {
        TOWN.range("clerk", 0, 2, 3, 2, n -> x -> x.sees(n, 0));
        TOWN.range("day", 0, 2, 399, 2, n -> x -> x.sees(0, n));
        NEW.answers("nobody stands there", 0, x -> x.sees(0, 0));
    }

    /** "The minute at which a PERSON of the LINE is BEGUN ..; NONE: .. BAD: also who does not stand there." */
    private static void promise30() {
        TOWN.range("clerk", 0, 585, 3, 560, n -> x -> x.begun(n, 0, 0));
        TOWN.range("day", 0, 585, 399, 585, n -> x -> x.begun(0, n, 0));
        TOWN.range("person", 0, 585, 1, 540, n -> x -> x.begun(0, 0, n));
        TOWN.answers("not open", NONE, x -> x.begun(0, 2, 0));
        for (int i = 2; i <= 8; i++) {
            int person = i;
            TOWN.refuses("does not stand there: " + person, BAD, x -> x.begun(0, 0, person));
        }
        TOWN.refuses("BAD on a day without office", BAD, x -> x.begun(0, 2, 2));
    }
}
