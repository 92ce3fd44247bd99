/** The edges of Terms 3 and of promises 15 to 20, sentence by sentence. */
final class EdgesFormsTest {
    private static final int NONE = -1, BAD = -2, NOT = -3, FULL = -4, NULL = -11;
    private static final Check CHECK = new Check("EdgesFormsTest");
    private static final Scene NEW = new Scene(CHECK, "new");
    private static final Scene TOWN = Scene.town(CHECK);
    private static final Scene TWO = NEW.then("two persons")
            .does(x -> x.person(0, 0, 8, 0, NONE), x -> x.person(1, 1, 4, 0, NONE), x -> x.sheet(0, 0, 0));

    private EdgesFormsTest() {
    }

    public static void main(String[] args) {
        sixtyForms();
        upTo20Items();
        answersFrom0To99();
        answersNotThereAreEmpty();
        anEmptyOneIsNeverRight();
        rightByLawOnTheDayItWasHandedIn();
        theSortMayBeOnTheRoll();
        schoolingIsAtLeastS();
        schoolingAsItWasThen();
        rightOnesAreAtLeastN();
        readOnce();
        passedOnesAreOn();
        refusedOnesAreNot();
        lateWhenRead();
        lateWhenNotRead();
        lateByTheLawOfWhichDay();
        trueReasons();
        partedForms();
        falselyRefused();
        asOfADay();
        asOfNoStates();
        promise15();
        promise15InOrder();
        promise16();
        promise16Passed();
        promise16Not();
        promise16Orders();
        promise17();
        promise17NotKnown();
        promise18();
        promise19();
        promise20();
        CHECK.end();
    }

    /** "FORMS 0 .. 59 (60 at most)" */
    private static void sixtyForms() {
        Scene most = TWO.then("59 forms").times(59, i -> x -> x.form(i % 2, 0));
        most.answers("the last", 59, x -> x.form(1, 0));
        most.refuses("one that is not there yet", BAD, x -> x.formIs(59, 0));
        Scene full = most.then("one more").does(x -> x.form(1, 0));
        full.answers("known", 60, x -> x.count(3));
        full.answers("the last one's person", 1, x -> x.formIs(59, 0));
        full.answers("of one person", 30, x -> x.about(0, 7));
        full.answers("the last is read", 1, x -> x.read(59, 3, true, 0));
        full.refuses("a 61st", FULL, x -> x.form(0, 0));
        full.refuses("form 60", BAD, x -> x.formIs(60, 0));
        full.refuses("form 60 is not read", BAD, x -> x.read(60, 0, true, 0));
    }

    /** "answers: the items of a SHEET, up to 20" */
    private static void upTo20Items() {
        Scene s = TWO.then("40 items").laws("q19=5;q0=6").does(x -> x.sheet(1, 1, 40), x -> x.lay(1, 1, 0, 6),
                x -> x.lay(1, 1, 19, 5), x -> x.lay(1, 1, 20, 5), x -> x.form(0, 1));
        s.answers("the first", 6, x -> x.answer(0, 0));
        s.answers("the 20th", 5, x -> x.answer(0, 19));
        s.refuses("there is no 21st", BAD, x -> x.answer(0, 20));
        s.answers("right ones", 2, x -> x.formIs(0, 3));
        s.answers("none is empty", 0, x -> x.formIs(0, 4));
        for (int items = 19; items <= 21; items++) {
            int n = items;
            Scene row = TWO.then(n + " items").does(x -> x.sheet(1, 1, n), x -> x.form(0, 1));
            row.answers("empty ones", n == 19 ? 1 : 0, x -> x.formIs(0, 4));
            row.answers("the 20th", n == 19 ? NONE : 0, x -> x.answer(0, 19));
        }
    }

    /** "those that are not 0 to 99, .. are EMPTY" */
    private static void answersFrom0To99() {
        Scene ints = TWO.then("ints").ints(1, 0, 99, -1, 100, Integer.MIN_VALUE, Integer.MAX_VALUE, 256)
                .does(x -> x.form(0, 1));
        int[] want = {0, 99, NONE, NONE, NONE, NONE, NONE};
        for (int i = 0; i < want.length; i++) {
            int question = i;
            ints.answers("answer " + question, want[question], x -> x.answer(0, question));
        }
        ints.answers("empty ones", 18, x -> x.formIs(0, 4));
        for (int type = 0; type <= 1; type++) {
            int as = type;
            Scene s = TWO.then("type " + type).does(x -> x.sheet(1, as, 4), x -> x.lay(1, as, 0, 99),
                    x -> x.lay(1, as, 1, 100), x -> x.lay(1, as, 2, 255), x -> x.lay(1, as, 3, 65536 + 7),
                    x -> x.form(0, 1));
            s.answers("99", 99, x -> x.answer(0, 0));
            s.answers("100", NONE, x -> x.answer(0, 1));
            s.answers("-1 or 255", NONE, x -> x.answer(0, 2));
            s.answers("its lowest bits", 7, x -> x.answer(0, 3));
        }
    }

    /** "or not there, are EMPTY" */
    private static void answersNotThereAreEmpty() {
        Scene none = TWO.then("no items").does(x -> x.form(0, 0));
        none.answers("all are empty", 20, x -> x.formIs(0, 4));
        none.answers("the first", NONE, x -> x.answer(0, 0));
        none.answers("the last", NONE, x -> x.answer(0, 19));
        Scene one = TWO.then("one item").does(x -> x.sheet(0, 0, 1), x -> x.form(0, 0));
        one.answers("all but one are empty", 19, x -> x.formIs(0, 4));
        one.answers("the first", 0, x -> x.answer(0, 0));
        one.answers("the second", NONE, x -> x.answer(0, 1));
        // A row that was longer once has no items of that time.
        Scene less = TWO.then("fewer items").ints(1, 4, 5, 6).does(x -> x.sheet(1, 2, 1), x -> x.form(0, 1));
        less.answers("not there any more", NONE, x -> x.answer(0, 1));
    }

    private static void anEmptyOneIsNeverRight() {
        Scene s = TWO.then("no answers").does(x -> x.form(0, 0), x -> x.form(1, 0));
        s.answers("nothing is right", 0, x -> x.formIs(0, 3));
        s.then("with laws").laws("q0=0").answers("empty is not 0", 0, x -> x.formIs(0, 3));
    }

    /** "RIGHT ones are those that are right by LAW on the DAY it was handed in." */
    private static void rightByLawOnTheDayItWasHandedIn() {
        Scene s = TWO.then("a law from day 2").laws("q0=7@2;q1=0").ints(0, 7, 0).does(x -> x.pass(1),
                x -> x.form(0, 0), x -> x.pass(1), x -> x.form(0, 0), x -> x.pass(1));
        s.answers("the day before", 1, x -> x.formIs(0, 3));
        s.answers("that day", 2, x -> x.formIs(1, 3));
        Scene all = TWO.then("20 right ones").laws("q0=0;q1=0;q2=0;q3=0;q4=0;q5=0;q6=0;q7=0;q8=0;q9=0;q10=0;q11=0;"
                + "q12=0;q13=0;q14=0;q15=0;q16=0;q17=0;q18=0;q19=0;n=20").does(x -> x.sheet(0, 0, 20),
                x -> x.form(0, 0), x -> x.lay(0, 0, 19, 1), x -> x.form(0, 0));
        all.answers("all", 20, x -> x.formIs(0, 3));
        all.answers("by text", 1, x -> x.formIs(0, 5));
        all.answers("all but the last", 19, x -> x.formIs(1, 3));
        all.answers("not by text", 0, x -> x.formIs(1, 5));
        Scene none = all.then("wiped").does(x -> x.wipe());
        none.answers("none is right without LAWS", 0, x -> x.formIs(0, 3));
        none.answers("nor by text", 0, x -> x.formIs(0, 5));
        Scene other = none.then("other laws").types("q19=1");
        other.answers("one by the text of now", 1, x -> x.formIs(1, 3));
        other.answers("by text", 1, x -> x.formIs(1, 5));
    }

    /** "it is to be passed, if the PERSON's SORT may be on the roll" */
    private static void theSortMayBeOnTheRoll() {
        for (int bits = 1; bits <= 3; bits++) {
            Scene s = TWO.then("k=" + bits).laws("n=0;k=" + bits).does(x -> x.form(0, 0), x -> x.form(1, 0));
            s.answers("sort 0 by text", bits & 1, x -> x.formIs(0, 5));
            s.answers("sort 1 by text", bits >> 1, x -> x.formIs(1, 5));
            s.answers("sort 0, true reasons", 1 - (bits & 1), x -> x.formIs(0, 10));
            s.answers("sort 1, true reasons", 1 - (bits >> 1), x -> x.formIs(1, 10));
        }
    }

    /** "its SCHOOLING (as it was then) is at least s"; "1: SCHOOLING was below s" */
    private static void schoolingIsAtLeastS() {
        int[] s = {0, 7, 8, 9, 99};
        for (int least : s) {
            Scene scene = TWO.then("s=" + least).laws("n=0;s=" + least).does(x -> x.form(0, 0));
            scene.answers("by text", least <= 8 ? 1 : 0, x -> x.formIs(0, 5));
            scene.answers("true reasons", least <= 8 ? 0 : 2, x -> x.formIs(0, 10));
        }
    }

    /** "(as it was then)" */
    private static void schoolingAsItWasThen() {
        Scene s = TWO.then("a lesson").laws("n=0;s=10").does(x -> x.form(0, 0), x -> x.teach(0), x -> x.form(0, 0));
        s.answers("then", 8, x -> x.formIs(0, 2));
        s.answers("not by text", 0, x -> x.formIs(0, 5));
        s.answers("then", 10, x -> x.formIs(1, 2));
        s.answers("by text", 1, x -> x.formIs(1, 5));
    }

    /** "and RIGHT ones are at least n"; "2: RIGHT ones are fewer than n" */
    private static void rightOnesAreAtLeastN() {
        int[] n = {0, 1, 2, 3, 99};
        for (int needed : n) {
            Scene s = TWO.then("n=" + needed).laws("q0=1;q1=1;q2=1;n=" + needed).ints(0, 1, 1, 2).does(x -> x.form(0, 0));
            s.answers("right ones", 2, x -> x.formIs(0, 3));
            s.answers("by text", needed <= 2 ? 1 : 0, x -> x.formIs(0, 5));
            s.answers("true reasons", needed <= 2 ? 0 : 4, x -> x.formIs(0, 10));
        }
    }

    /** "READ is a FORM once, by a CLERK, on the DAY" */
    private static void readOnce() {
        for (int i = 0; i < 2; i++) {
            boolean passed = i == 0;
            Scene s = TWO.then("read on day 1").laws("n=0").does(x -> x.form(0, 0), x -> x.pass(1),
                    x -> x.read(0, 2, passed, 4), x -> x.pass(1));
            s.answers("the day", 1, x -> x.formIs(0, 6));
            s.answers("the clerk", 2, x -> x.formIs(0, 7));
            s.refuses("passed once more", NOT, x -> x.read(0, 1, true, 0));
            s.refuses("refused once more", NOT, x -> x.read(0, 1, false, 0));
            s.refuses("by the same", NOT, x -> x.read(0, 2, passed, 4));
        }
    }

    /** "PASSED (the PERSON is ON from then on, if it was OFF or STRUCK)" */
    private static void passedOnesAreOn() {
        Scene s = TWO.then("three forms").does(x -> x.form(0, 0), x -> x.form(0, 0), x -> x.form(0, 0));
        s.answers("OFF", 0, x -> x.about(0, 5));
        Scene on = s.then("one passed").does(x -> x.read(0, 0, true, 0));
        on.answers("ON", 1, x -> x.about(0, 5));
        on.answers("one that is ON may be passed", 1, x -> x.read(1, 0, true, 0));
        Scene struck = on.then("struck").does(x -> x.put(0, 2));
        struck.answers("STRUCK", 2, x -> x.about(0, 5));
        struck.then("passed").does(x -> x.read(1, 0, true, 0)).answers("ON again", 1, x -> x.about(0, 5));
        for (int i = 3; i <= 4; i++) {
            int state = i;
            Scene gone = s.then("state " + state).does(x -> x.put(0, state), x -> x.read(0, 0, true, 0));
            gone.answers("it stays", state, x -> x.about(0, 5));
            gone.answers("the form is passed", 1, x -> x.formIs(0, 8));
            gone.answers("nobody is ON", 0, x -> x.count(2));
        }
    }

    /** "or REFUSED, with a reason said" */
    private static void refusedOnesAreNot() {
        for (int i = 0; i <= 4; i++) {
            int reason = i;
            Scene s = TWO.then("refused for " + reason).does(x -> x.form(0, 0), x -> x.read(0, 0, false, reason));
            s.answers("OFF", 0, x -> x.about(0, 5));
            s.answers("refused", 2, x -> x.formIs(0, 8));
            s.answers("reason", reason, x -> x.formIs(0, 9));
        }
    }

    /** A form handed in on day 3 and read so many days later, under a law of w. */
    private static Scene read(int w, int days) {
        Scene s = TWO.then("w=" + w + ", read behind " + days).laws("n=0;w=" + w).does(x -> x.pass(3), x -> x.form(0, 0));
        if (days > 0) {
            s.does(x -> x.pass(days));
        }
        return s.does(x -> x.read(0, 0, false, 3));
    }

    /** "LATE is a FORM that was READ more than w DAYS .. after it was handed in"; "3: it is LATE" */
    private static void lateWhenRead() {
        for (int w : new int[] {0, 1, 5, 99}) {
            Scene in = read(w, w);
            in.answers("late", 0, x -> x.formIs(0, 11));
            in.answers("true reasons", 0, x -> x.formIs(0, 10));
            in.answers("falsely refused", 1, x -> x.parted(NONE, 2));
            Scene late = read(w, w + 1);
            late.answers("late", 1, x -> x.formIs(0, 11));
            late.answers("true reasons", 8, x -> x.formIs(0, 10));
            late.answers("falsely refused", 0, x -> x.parted(NONE, 2));
        }
    }

    /** "or that is not READ more than w DAYS (by LAW on that DAY) after, AS OF a DAY" */
    private static void lateWhenNotRead() {
        for (int w : new int[] {0, 1, 5, 99}) {
            Scene in = TWO.then("w=" + w).laws("n=0;w=" + w).does(x -> x.pass(3), x -> x.form(0, 0));
            if (w > 0) {
                in.does(x -> x.pass(w));
            }
            in.answers("not late", 0, x -> x.formIs(0, 11));
            Scene late = in.then("a day more").does(x -> x.pass(1));
            late.answers("late", 1, x -> x.formIs(0, 11));
            late.answers("true reasons", 8, x -> x.formIs(0, 10));
            late.then("as of a day before").does(x -> x.asOf(3 + w)).answers("not late", 0, x -> x.formIs(0, 11));
            Scene read = late.then("read today").does(x -> x.read(0, 0, false, 3), x -> x.asOf(3 + w));
            read.answers("not read as of a day before, not late", 0, x -> x.formIs(0, 11));
        }
    }

    /** "(by LAW on the DAY it was READ)" */
    private static void lateByTheLawOfWhichDay() {
        Scene s = TWO.then("w=1, w=9 from day 3, w=0 from day 6").laws("n=0;w=1;w=9@3;w=0@6");
        s.does(x -> x.form(0, 0), x -> x.form(0, 0), x -> x.form(0, 0), x -> x.pass(2), x -> x.read(0, 0, false, 3),
                x -> x.pass(1), x -> x.read(1, 0, false, 3), x -> x.pass(3), x -> x.read(2, 0, false, 3));
        s.answers("by w of day 2", 1, x -> x.formIs(0, 11));
        s.answers("by w of day 3", 0, x -> x.formIs(1, 11));
        s.answers("by w of day 6", 1, x -> x.formIs(2, 11));
        s.then("as of day 5").does(x -> x.asOf(5)).answers("not read, by w of day 5", 0, x -> x.formIs(2, 11));
        s.then("as of day 2").does(x -> x.asOf(2)).answers("not read, by w of day 2", 1, x -> x.formIs(2, 11));
    }

    /** "TRUE is a reason, if so .."; "4 is never TRUE" */
    private static void trueReasons() {
        Scene s = TWO.then("all is against it").laws("n=1;k=1;s=5;w=0").does(x -> x.form(1, 0), x -> x.form(1, 0),
                x -> x.pass(1), x -> x.read(0, 0, false, 4));
        s.answers("all but the last", 15, x -> x.formIs(0, 10));
        s.answers("of one not read", 15, x -> x.formIs(1, 10));
        Scene none = TWO.then("all is for it").laws("n=0").does(x -> x.form(1, 0), x -> x.read(0, 0, false, 4));
        none.answers("none", 0, x -> x.formIs(0, 10));
        Scene day = TWO.then("laws from day 1").laws("n=0;k=1@1;s=20@1;n=9@1").does(x -> x.form(1, 0), x -> x.pass(1),
                x -> x.form(1, 0));
        day.answers("by LAW on the DAY it was handed in", 0, x -> x.formIs(0, 10));
        day.answers("a day later", 7, x -> x.formIs(1, 10));
    }

    /** "PASSED though BY TEXT they are not to be, or REFUSED though they are" */
    private static void partedForms() {
        Scene s = TWO.then("s=8").laws("n=0;s=8").does(x -> x.form(0, 0), x -> x.form(1, 0), x -> x.form(0, 0),
                x -> x.form(1, 0), x -> x.form(1, 0));
        s.answers("none is read", 0, x -> x.parted(NONE, 0) + x.parted(NONE, 1) + x.parted(NONE, 2));
        Scene read = s.then("four read").does(x -> x.read(0, 0, true, 0), x -> x.read(1, 0, true, 0),
                x -> x.read(2, 0, false, 0), x -> x.read(3, 0, false, 1));
        int[][] want = {{1, 1, 1}, {0, 1, 1}, {1, 0, 0}};
        for (int i = 0; i < 9; i++) {
            int sort = i / 3 - 1;
            int what = i % 3;
            read.answers("parted " + sort + " " + what, want[i / 3][what], x -> x.parted(sort, what));
        }
    }

    /** "FALSELY refused ones are REFUSED with a reason that is not TRUE." */
    private static void falselyRefused() {
        Scene s = TWO.then("s=5").laws("n=0;s=5").does(x -> x.form(1, 0));
        for (int i = 0; i <= 4; i++) {
            int reason = i;
            s.answers("for " + reason, reason == 1 ? 0 : 1, x -> {
                x.read(0, 0, false, reason);
                return x.parted(1, 2);
            });
        }
        s.answers("a PASSED one", 0, x -> {
            x.read(0, 0, true, 0);
            return x.parted(1, 2);
        });
    }

    private static Scene days() {
        return TWO.then("a form on days 1 and 3, read on 2 and 4").laws("n=0").does(x -> x.pass(1), x -> x.form(0, 0),
                x -> x.pass(1), x -> x.read(0, 1, false, 4), x -> x.pass(1), x -> x.form(1, 0), x -> x.pass(1),
                x -> x.read(1, 1, true, 0), x -> x.pass(1));
    }

    /** "FORMS handed in later are not known, those read later are not READ"; "NONE, at first: the DAY" */
    private static void asOfADay() {
        int[] known = {0, 1, 1, 2, 2, 2};
        int[] read = {0, 0, 1, 1, 2, 2};
        for (int i = 0; i < known.length; i++) {
            int day = i;
            Scene s = days().then("as of " + day).does(x -> x.asOf(day));
            s.answers("known", known[day], x -> x.count(3));
            s.answers("read", read[day], x -> x.count(4));
            s.answers("of 1", day < 3 ? 0 : 1, x -> x.about(1, 7));
            s.answers("how it was read", day < 1 ? NOT : day < 2 ? 0 : 2, x -> x.formIs(0, 8));
            s.answers("when it was read", day < 1 ? NOT : day < 2 ? NONE : 2, x -> x.formIs(0, 6));
            s.answers("who read it", day < 1 ? NOT : day < 2 ? NONE : 1, x -> x.formIs(0, 7));
            s.answers("what was said", day < 1 ? NOT : day < 2 ? NONE : 4, x -> x.formIs(0, 9));
            s.answers("parted", day < 2 ? 0 : 1, x -> x.parted(NONE, 1));
            s.answers("rules", day < 2 ? 484 : day < 4 ? 21 * 22 : 21, x -> x.rules(1));
            s.answers("unlike", day < 4 ? 0 : 1, x -> x.unlike(1));
            s.answers("proves", day < 4 ? NONE : 100, x -> x.proves(1));
        }
        days().answers("at first: the DAY", 2, x -> x.count(4));
        Scene back = days().then("as of 0, then NONE").does(x -> x.asOf(0), x -> x.asOf(NONE));
        back.answers("the DAY again", 2, x -> x.count(4));
        Scene on = days().then("as of 4, and a day on").does(x -> x.asOf(4), x -> x.pass(1));
        on.answers("it stays", 4, x -> x.asOf(NONE));
    }

    /** "(It changes what is told of FORMS, no STATES.)" */
    private static void asOfNoStates() {
        Scene s = days().then("as of 0").does(x -> x.asOf(0));
        s.answers("ON", 1, x -> x.about(1, 5));
        s.answers("those ON", 1, x -> x.count(2));
        s.answers("the DAY", 5, x -> x.count(0));
        s.refuses("READ it was", NOT, x -> x.read(0, 0, true, 0));
        s.answers("a FORM more", 2, x -> x.form(0, 0));
    }

    /** "A FORM of a PERSON with answers of a SHEET: its number. BAD; NULL; NOT: .. ON, GONE, DEAD; FULL." */
    private static void promise15() {
        Scene all = TOWN.then("one more, no sheet lost").does(x -> x.person(0, 0, 0, 0, NONE), x -> x.sheet(3, 0, 0));
        all.range("person", 0, 6, 8, 6, n -> x -> x.form(n, 0));
        all.range("sheet", 0, 6, 3, 6, n -> x -> x.form(0, n));
        TOWN.finds("of a lost sheet", NULL, 1, x -> x.form(0, 3));
        TOWN.refuses("one that is ON", NOT, x -> x.form(5, 0));
        TOWN.refuses("one that is GONE", NOT, x -> x.form(4, 0));
        TOWN.refuses("one that is DEAD", NOT, x -> x.form(7, 0));
        TOWN.answers("one that is STRUCK", 6, x -> x.form(6, 0));
        NEW.refuses("nobody", BAD, x -> x.form(0, 0));
    }

    private static void promise15InOrder() {
        TOWN.refuses("BAD ahead of NULL: person", BAD, x -> x.form(8, 3));
        TOWN.refuses("BAD ahead of NOT: sheet", BAD, x -> x.form(5, 4));
        TOWN.finds("NULL ahead of NOT: ON", NULL, 1, x -> x.form(5, 3));
        TOWN.finds("NULL ahead of NOT: GONE", NULL, 1, x -> x.form(4, 3));
        TOWN.finds("NULL ahead of NOT: DEAD", NULL, 1, x -> x.form(7, 3));
        Scene full = TWO.then("60 forms, one ON").times(60, i -> x -> x.form(0, 0)).does(x -> x.read(0, 0, true, 0));
        full.refuses("FULL", FULL, x -> x.form(1, 0));
        Scene town = TOWN.then("60 forms").times(54, i -> x -> x.form(i % 3, i % 3));
        town.answers("forms", 60, x -> x.count(3));
        town.refuses("FULL", FULL, x -> x.form(0, 0));
        full.refuses("NOT ahead of FULL", NOT, x -> x.form(0, 0));
        full.finds("NULL ahead of FULL", NULL, 1, x -> x.form(1, 1));
        full.refuses("BAD ahead of FULL: person", BAD, x -> x.form(2, 0));
        full.refuses("BAD ahead of FULL: sheet", BAD, x -> x.form(1, 4));
    }

    /** "READ: 1. BAD: CLERK, reason 0 to 4" */
    private static void promise16() {
        Scene s = TWO.then("three forms").does(x -> x.form(0, 0), x -> x.form(0, 0), x -> x.form(1, 0));
        s.range("form", 0, 1, 2, 1, n -> x -> x.read(n, 0, true, 0));
        s.range("clerk", 0, 1, 3, 1, n -> x -> x.read(0, n, true, 0));
        s.range("clerk who refuses", 0, 1, 3, 1, n -> x -> x.read(0, n, false, 0));
        s.range("reason", 0, 1, 4, 1, n -> x -> x.read(0, 0, false, n));
        NEW.refuses("no form", BAD, x -> x.read(0, 0, true, 0));
    }

    /** "(of PASSED ones it counts nothing)" */
    private static void promise16Passed() {
        Scene s = TWO.then("a form").does(x -> x.form(0, 0));
        for (int reason : new int[] {-1, 0, 4, 5, Integer.MIN_VALUE, Integer.MAX_VALUE}) {
            Scene passed = s.then("passed for " + reason).does(x -> x.read(0, 0, true, reason));
            s.answers("passed for " + reason, 1, x -> x.read(0, 0, true, reason));
            passed.answers("passed", 1, x -> x.formIs(0, 8));
            passed.answers("no reason", NONE, x -> x.formIs(0, 9));
        }
    }

    /** "NOT: it was READ" */
    private static void promise16Not() {
        TOWN.refuses("one that was PASSED", NOT, x -> x.read(3, 0, true, 0));
        TOWN.refuses("one that was REFUSED", NOT, x -> x.read(1, 0, true, 0));
        TOWN.refuses("refused again", NOT, x -> x.read(1, 0, false, 4));
        TOWN.refuses("BAD ahead of NOT: clerk", BAD, x -> x.read(3, 4, true, 0));
        TOWN.refuses("BAD ahead of NOT: reason", BAD, x -> x.read(3, 0, false, 5));
        TOWN.then("as of 0").does(x -> x.asOf(0)).answers("one that is not known", 1, x -> x.read(5, 0, true, 0));
    }

    /** "or an ORDER is in the way" */
    private static void promise16Orders() {
        TOWN.refuses("an order from day 1", NOT, x -> x.read(0, 2, false, 4));
        TOWN.refuses("BAD ahead of the order", BAD, x -> x.read(0, 2, false, 5));
        TOWN.answers("it may pass it", 1, x -> x.read(0, 2, true, 4));
        TOWN.answers("another clerk may refuse it", 1, x -> x.read(0, 1, false, 4));
        int[] from = {NONE, 0, 2, 3, 399};
        int[] want = {1, NOT, NOT, 1, 1};
        for (int i = 0; i < from.length; i++) {
            int day = from[i];
            Scene s = TOWN.then("an order from " + day).does(x -> x.order(2, day));
            s.answers("refused", want[i], x -> x.read(0, 2, false, 4));
        }
        Scene not = TOWN.then("not by text").laws("s=21");
        not.answers("one that is not to be passed", 1, x -> x.read(0, 2, false, 4));
    }

    /** "Of a FORM: 0 PERSON .. 11 whether it is LATE. BAD" */
    private static void promise17() {
        TOWN.range("form", 0, 0, 5, 2, n -> x -> x.formIs(n, 1));
        TOWN.range("what", 0, 1, 11, 0, n -> x -> x.formIs(1, n));
        int[] refused = {1, 0, 4, 2, 18, 1, 0, 1, 2, 1, 0, 0};
        int[] passed = {5, 0, 6, 2, 18, 1, 0, 0, 1, NONE, 0, 0};
        int[] open = {2, 2, 9, 2, 18, 1, NONE, NONE, 0, NONE, 0, 0};
        for (int i = 0; i < 12; i++) {
            int what = i;
            TOWN.answers("of a refused one " + what, refused[what], x -> x.formIs(1, what));
            TOWN.answers("of a passed one " + what, passed[what], x -> x.formIs(3, what));
            TOWN.answers("of one not read " + what, open[what], x -> x.formIs(5, what));
        }
        NEW.refuses("no form", BAD, x -> x.formIs(0, 0));
    }

    /** "NOT: it is not known" */
    private static void promise17NotKnown() {
        Scene then = TOWN.then("as of 1").does(x -> x.asOf(1));
        for (int i = 0; i < 12; i++) {
            int what = i;
            then.refuses("what " + what, NOT, x -> x.formIs(5, what));
        }
        then.refuses("BAD ahead of NOT: above", BAD, x -> x.formIs(5, 12));
        then.refuses("BAD ahead of NOT: below", BAD, x -> x.formIs(5, -1));
        then.refuses("no such form", BAD, x -> x.formIs(6, 0));
        TOWN.then("as of 2").does(x -> x.asOf(2)).answers("known on its day", 2, x -> x.formIs(5, 1));
    }

    /** "An answer (0 to 19) of a FORM; NONE: EMPTY. BAD; NOT: it is not known." */
    private static void promise18() {
        Scene s = TOWN.then("20 answers").does(x -> x.lay(2, 2, 0, 8), x -> x.lay(2, 2, 19, 9), x -> x.form(0, 2));
        s.range("form", 0, 3, 6, 8, n -> x -> x.answer(n, 0));
        s.range("question", 0, 8, 19, 9, n -> x -> x.answer(6, n));
        TOWN.answers("an empty one", NONE, x -> x.answer(0, 2));
        TOWN.answers("one not there", NONE, x -> x.answer(0, 19));
        Scene then = TOWN.then("as of 1").does(x -> x.asOf(1));
        then.refuses("not known", NOT, x -> x.answer(5, 0));
        then.refuses("not known, and empty", NOT, x -> x.answer(5, 19));
        then.refuses("BAD ahead of NOT", BAD, x -> x.answer(5, 20));
        then.answers("known", 3, x -> x.answer(0, 0));
    }

    /** "of a SORT (NONE: both): PASSED ones (what = 0), REFUSED ones (1), all that are FALSELY refused (2). BAD." */
    private static void promise19() {
        TOWN.range("sort", NONE, 1, 1, 1, n -> x -> x.parted(n, 1));
        TOWN.range("what", 0, 0, 2, 1, n -> x -> x.parted(1, n));
        TOWN.answers("of the other sort", 0, x -> x.parted(0, 1));
        NEW.answers("no forms", 0, x -> x.parted(NONE, 1));
    }

    /** "AS OF a DAY (NONE: now): what it was. BAD."; "not behind the DAY then" */
    private static void promise20() {
        TOWN.range("day", NONE, NONE, 2, NONE, n -> x -> x.asOf(n));
        Scene then = TOWN.then("as of 1").does(x -> x.asOf(1));
        then.range("day", NONE, 1, 2, 1, n -> x -> x.asOf(n));
        NEW.range("day", NONE, NONE, 0, NONE, n -> x -> x.asOf(n));
        TOWN.then("a day on").does(x -> x.pass(1)).answers("a day later", NONE, x -> x.asOf(3));
    }
}
