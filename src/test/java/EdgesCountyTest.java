/** The edges of Terms 1 and of promises 1 to 8, sentence by sentence. */
final class EdgesCountyTest {
    private static final int NONE = -1, BAD = -2, NOT = -3, FULL = -4;
    private static final int LEAST = Integer.MIN_VALUE;
    private static final Check CHECK = new Check("EdgesCountyTest");
    private static final Scene NEW = new Scene(CHECK, "new");
    private static final Scene TOWN = Scene.town(CHECK);
    private static final Scene NINE = TOWN.then("one more").does(x -> x.person(1, 0, 0, 0, NONE));

    private EdgesCountyTest() {
    }

    public static void main(String[] args) {
        daysGoOnFrom0();
        daysEndWith399();
        fortyEightPersons();
        anOwnerHasALesserNumber();
        aStateAtFirst();
        goneOnesLiveInNoBeat();
        goneOnesChangeNoMore();
        promise1();
        promise2();
        promise3();
        promise4();
        promise5();
        promise5Struck();
        promise6();
        promise7();
        promise8();
        promise8Empty();
        CHECK.end();
    }

    /** "it is a DAY (0 at first), that goes on" */
    private static void daysGoOnFrom0() {
        NEW.answers("the day", 0, x -> x.count(0));
        NEW.answers("a day on", 1, x -> x.pass(1));
        NEW.then("a day on").does(x -> x.pass(1)).answers("the day", 1, x -> x.count(0));
    }

    private static Scene day(Scene from, int day) {
        Scene s = from.then("day " + day);
        for (int left = day; left > 0; left -= 100) {
            int n = Math.min(100, left);
            s.does(x -> x.pass(n));
        }
        return s;
    }

    /** "DAYS 0 .. 399" */
    private static void daysEndWith399() {
        day(NEW, 398).answers("to the last day", 399, x -> x.pass(1));
        day(NEW, 398).refuses("beyond it", BAD, x -> x.pass(2));
        Scene last = day(NEW, 399);
        last.answers("the day", 399, x -> x.count(0));
        last.refuses("beyond it", BAD, x -> x.pass(1));
        last.refuses("far beyond it", BAD, x -> x.pass(100));
        last.answers("as of it", NONE, x -> x.asOf(399));
        last.refuses("as of one behind it", BAD, x -> x.asOf(400));
    }

    private static Scene crowd(int persons) {
        return new Scene(CHECK, persons + " persons")
                .times(persons, i -> x -> x.person(i % 6, i % 2, i % 21, i % 10, i - 1));
    }

    /** "PERSONS 0 .. 47 (48 at most)" */
    private static void fortyEightPersons() {
        crowd(47).answers("the last", 47, x -> x.person(0, 0, 0, 0, NONE));
        crowd(47).refuses("one that is not there yet", BAD, x -> x.about(47, 0));
        Scene full = crowd(48);
        full.answers("so many", 48, x -> x.count(1));
        full.answers("the last one's beat", 5, x -> x.about(47, 0));
        full.answers("the last one's owner", 46, x -> x.about(47, 4));
        full.refuses("one more", FULL, x -> x.person(0, 0, 0, 0, NONE));
        full.refuses("person 48", BAD, x -> x.about(48, 0));
        full.answers("the last one stands in line", 1, x -> x.stand(47, 0));
        full.answers("the last one rides", 1, x -> x.choice(true, 47, 0));
    }

    /** "an OWNER (a PERSON with a lesser number, on whose land they live; NONE)" */
    private static void anOwnerHasALesserNumber() {
        NEW.refuses("nobody is there to own", BAD, x -> x.person(0, 0, 0, 0, 0));
        NEW.answers("no owner", 0, x -> x.person(0, 0, 0, 0, NONE));
        TOWN.answers("the one before", 7, x -> {
            x.person(0, 0, 0, 0, 7);
            return x.about(8, 4);
        });
        TOWN.refuses("itself", BAD, x -> x.person(0, 0, 0, 0, 8));
    }

    /** "a STATE: 0 OFF the roll (at first)"; "HARSH (0 to 9; 0 at first)" */
    private static void aStateAtFirst() {
        Scene s = NEW.then("one person").does(x -> x.person(0, 1, 20, 9, NONE));
        s.answers("state", 0, x -> x.about(0, 5));
        s.answers("harsh", 0, x -> x.about(0, 6));
        s.answers("forms", 0, x -> x.about(0, 7));
    }

    /** "GONE and DEAD ones live in no BEAT" */
    private static void goneOnesLiveInNoBeat() {
        for (int state = 3; state <= 4; state++) {
            int now = state;
            Scene s = NEW.then("one in state " + state).does(x -> x.person(2, 1, 5, 5, NONE), x -> x.put(0, now));
            s.answers("beat", NONE, x -> x.about(0, 0));
            s.answers("state", state, x -> x.about(0, 5));
            for (int before = 0; before <= 2; before++) {
                int was = before;
                s.answers("in a state anywhere", 0, x -> x.roll(NONE, NONE, was));
                s.answers("in a state in its beat", 0, x -> x.roll(2, NONE, was));
            }
            s.answers("nobody is ready", 0, x -> x.ready(NONE));
            s.answers("nobody could be chosen", NONE, x -> x.changed(2));
            s.answers("in no beat", NONE, x -> x.wins(1));
        }
    }

    /** "and change no more" */
    private static void goneOnesChangeNoMore() {
        for (int state = 3; state <= 4; state++) {
            int now = state;
            Scene s = NEW.then("two, one in state " + state);
            s.does(x -> x.person(2, 1, 5, 5, NONE), x -> x.person(2, 0, 5, 5, NONE), x -> x.person(2, 0, 5, 0, 1));
            s.types("n=0").does(x -> x.sheet(0, 0, 0), x -> x.form(0, 0), x -> x.form(2, 0));
            s.does(x -> x.read(1, 0, true, 0), x -> x.harsh(1, 1), x -> x.put(0, now));
            for (int other = 2; other <= 4; other++) {
                int to = other;
                s.refuses("to state " + other, NOT, x -> x.put(0, to));
            }
            s.refuses("to another beat", NOT, x -> x.move(0, 3));
            s.refuses("a form more", NOT, x -> x.form(0, 0));
            s.answers("its form is passed", 1, x -> x.read(0, 0, true, 0));
            s.answers("it stays", state, x -> {
                x.read(0, 0, true, 0);
                return x.about(0, 5);
            });
            s.answers("a lesson for the other alone", 1, x -> x.teach(2));
            s.answers("schooling", 5, x -> {
                x.teach(2);
                return x.about(0, 2);
            });
            s.answers("fear", 5, x -> {
                x.list();
                return x.about(0, 3);
            });
            s.answers("the other's fear", 6, x -> {
                x.list();
                return x.about(1, 3);
            });
            s.answers("no ride brings it", 0, x -> {
                x.choice(true, 0, 0);
                return x.judge(1, 0);
            });
        }
    }

    /** "DAY 0, no PERSONS; all SHEETS are LOST." */
    private static void promise1() {
        NEW.answers("day", 0, x -> x.count(0));
        NEW.answers("persons", 0, x -> x.count(1));
        for (int i = 0; i < 8; i++) {
            int what = i;
            NEW.refuses("about nobody " + what, BAD, x -> x.about(0, what));
        }
        for (int i = 0; i < 4; i++) {
            int s = i;
            NEW.finds("to lose sheet " + s, -11, 1, x -> x.lose(s));
            for (int type = 0; type < 3; type++) {
                int as = type;
                NEW.finds("an item of sheet " + s, LEAST, 1, x -> x.get(s, as, 0));
            }
        }
    }

    /** "n DAYS (1 to 100) go by: the DAY then. BAD: also above 399." */
    private static void promise2() {
        TOWN.range("pass", 1, 3, 100, 102, n -> x -> x.pass(n));
        day(NEW, 299).answers("100 to the last day", 399, x -> x.pass(100));
        Scene late = day(TOWN, 298);
        late.answers("99 to the last day", 399, x -> x.pass(99));
        late.refuses("100 beyond it", BAD, x -> x.pass(100));
    }

    /** "A PERSON more: its number. BAD; FULL." */
    private static void promise3() {
        TOWN.range("beat", 0, 8, 5, 8, n -> x -> x.person(n, 0, 0, 0, NONE));
        TOWN.range("sort", 0, 8, 1, 8, n -> x -> x.person(0, n, 0, 0, NONE));
        TOWN.range("schooling", 0, 8, 20, 8, n -> x -> x.person(0, 0, n, 0, NONE));
        TOWN.range("fear", 0, 8, 9, 8, n -> x -> x.person(0, 0, 0, n, NONE));
        TOWN.range("owner", NONE, 8, 7, 8, n -> x -> x.person(0, 0, 0, 0, n));
        int[] least = {0, 0, 0, 0, NONE};
        int[] most = {5, 1, 20, 9, 7};
        for (int i = 0; i < 5; i++) {
            int what = i;
            TOWN.answers("the least", least[what], x -> x.about(x.person(0, 0, 0, 0, NONE), what));
            TOWN.answers("the most", most[what], x -> x.about(x.person(5, 1, 20, 9, 7), what));
        }
        Scene full = TOWN.then("forty more").times(40, i -> x -> x.person(i % 6, i % 2, i % 21, i % 10, i));
        full.answers("persons", 48, x -> x.count(1));
        full.refuses("FULL, with an owner", FULL, x -> x.person(5, 1, 20, 9, 47));
        full.refuses("BAD ahead of FULL: owner", BAD, x -> x.person(5, 1, 20, 9, 48));
        full.refuses("BAD ahead of FULL: beat", BAD, x -> x.person(6, 1, 20, 9, NONE));
        full.refuses("BAD ahead of FULL: sort", BAD, x -> x.person(5, 2, 20, 9, NONE));
        full.refuses("BAD ahead of FULL: schooling", BAD, x -> x.person(5, 1, 21, 9, NONE));
        full.refuses("BAD ahead of FULL: fear", BAD, x -> x.person(5, 1, 20, 10, NONE));
    }

    /** "Of a PERSON: 0 BEAT .. 7 how many FORMS are known of it. BAD." */
    private static void promise4() {
        TOWN.range("person", 0, 0, 7, NONE, n -> x -> x.about(n, 0));
        TOWN.range("what", 0, 1, 7, 2, n -> x -> x.about(2, n));
        Scene then = TOWN.then("as of day 1").does(x -> x.asOf(1));
        then.answers("forms known of 2", 1, x -> x.about(2, 7));
        NEW.refuses("nobody", BAD, x -> x.about(0, 5));
    }

    /** "(2), GONE (3), DEAD (4): its STATE before. BAD; NOT: it is GONE, DEAD, or (2) not ON." */
    private static void promise5() {
        NINE.range("person", 0, 0, 8, 0, n -> x -> x.put(n, 4));
        TOWN.range("state", 2, 1, 4, 1, n -> x -> x.put(5, n));
        for (int state = 2; state <= 4; state++) {
            int to = state;
            TOWN.refuses("a GONE one to " + state, NOT, x -> x.put(4, to));
            TOWN.refuses("a DEAD one to " + state, NOT, x -> x.put(7, to));
        }
        TOWN.refuses("BAD ahead of NOT: above", BAD, x -> x.put(4, 5));
        TOWN.refuses("BAD ahead of NOT: below", BAD, x -> x.put(7, 1));
        TOWN.refuses("ON is no state to put", BAD, x -> x.put(0, 1));
        TOWN.refuses("nor is OFF", BAD, x -> x.put(5, 0));
    }

    /** "A PERSON is STRUCK from the roll (2)"; "(2) not ON" */
    private static void promise5Struck() {
        TOWN.answers("ON", 1, x -> x.put(5, 2));
        TOWN.answers("STRUCK then", 2, x -> {
            x.put(5, 2);
            return x.about(5, 5);
        });
        TOWN.answers("lives where it did", 3, x -> {
            x.put(5, 2);
            return x.about(5, 0);
        });
        TOWN.refuses("OFF", NOT, x -> x.put(0, 2));
        TOWN.refuses("STRUCK", NOT, x -> x.put(6, 2));
        TOWN.answers("STRUCK to GONE", 2, x -> x.put(6, 3));
        TOWN.answers("OFF to DEAD", 0, x -> x.put(0, 4));
        TOWN.answers("DEAD then", 4, x -> {
            x.put(0, 4);
            return x.about(0, 5);
        });
    }

    /** "A PERSON moves to another BEAT: the one it lived in. BAD: also the same; NOT: GONE, DEAD." */
    private static void promise6() {
        NINE.range("person", 0, 0, 8, 1, n -> x -> x.move(n, 4));
        TOWN.range("beat", 0, 1, 5, 1, n -> x -> x.move(2, n));
        int[] living = {0, 1, 2, 3, 5, 6};
        int[] beats = {0, 0, 1, 5, 3, 3};
        for (int i = 0; i < living.length; i++) {
            int person = living[i];
            int beat = beats[i];
            TOWN.refuses("the same, of " + person, BAD, x -> x.move(person, beat));
        }
        for (int i = 0; i < 6; i++) {
            int beat = i;
            TOWN.refuses("a GONE one to " + beat, NOT, x -> x.move(4, beat));
            TOWN.refuses("a DEAD one to " + beat, NOT, x -> x.move(7, beat));
        }
        TOWN.refuses("BAD ahead of NOT", BAD, x -> x.move(4, 6));
        TOWN.refuses("a GONE one to no beat", BAD, x -> x.move(4, NONE));
        TOWN.answers("there", 5, x -> {
            x.move(2, 5);
            return x.about(2, 0);
        });
    }

    /** "HARSH of an OWNER: what it was. BAD."; "HARSH (0 to 9; 0 at first)" */
    private static void promise7() {
        TOWN.range("person", 0, 3, 7, 0, n -> x -> x.harsh(n, 9));
        TOWN.range("harsh", 0, 3, 9, 3, n -> x -> x.harsh(0, n));
        TOWN.answers("the most", 9, x -> {
            x.harsh(0, 9);
            return x.about(0, 6);
        });
        TOWN.answers("the least", 0, x -> {
            x.harsh(0, 0);
            return x.about(0, 6);
        });
        TOWN.answers("as before", 3, x -> x.harsh(0, 3));
    }

    /** "How many live in a BEAT (NONE: all) of a SORT (NONE: both) in a STATE (0 to 2). BAD." */
    private static void promise8() {
        TOWN.range("beat", NONE, 4, 5, 1, n -> x -> x.roll(n, NONE, 0));
        TOWN.range("sort", NONE, 4, 1, 2, n -> x -> x.roll(NONE, n, 0));
        TOWN.range("state", 0, 4, 2, 1, n -> x -> x.roll(NONE, NONE, n));
        TOWN.answers("of sort 0", 2, x -> x.roll(NONE, 0, 0));
        TOWN.answers("in beat 0", 2, x -> x.roll(0, NONE, 0));
        TOWN.answers("ON", 1, x -> x.roll(NONE, NONE, 1));
        TOWN.answers("STRUCK of sort 1 in beat 3", 1, x -> x.roll(3, 1, 2));
        TOWN.answers("STRUCK of sort 0 in beat 3", 0, x -> x.roll(3, 0, 2));
        TOWN.answers("where a GONE one lived", 0, x -> x.roll(2, NONE, 0));
        TOWN.answers("where a DEAD one lived", 0, x -> x.roll(4, NONE, 0));
    }

    /** An empty county, and a full one. */
    private static void promise8Empty() {
        for (int i = 0; i < 3; i++) {
            int state = i;
            NEW.answers("nobody", 0, x -> x.roll(NONE, NONE, state));
            NEW.answers("nobody in 5", 0, x -> x.roll(5, 1, state));
        }
        crowd(48).answers("all", 48, x -> x.roll(NONE, NONE, 0));
        crowd(48).answers("a sixth", 8, x -> x.roll(0, NONE, 0));
        crowd(48).answers("a half", 24, x -> x.roll(NONE, 1, 0));
    }
}
