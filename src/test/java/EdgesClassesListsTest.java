/** The edges of Terms 5 and 6 and of promises 31 to 35, sentence by sentence. */
final class EdgesClassesListsTest {
    private static final int NONE = -1, BAD = -2, FULL = -4;
    private static final Check CHECK = new Check("EdgesClassesListsTest");
    private static final Scene NEW = new Scene(CHECK, "new");
    private static final Scene TOWN = Scene.town(CHECK);

    private EdgesClassesListsTest() {
    }

    public static void main(String[] args) {
        gainsTwoUpTo20();
        eachPersonThereOffOrStruck();
        ofASortThatKAllows();
        readyAtLeastS();
        readyBeats();
        twelveLessonsAtMost();
        ofLikeOnesTheFewestLessons();
        thenTheMostForBeat0();
        oneBeatSeveral();
        fearLessThanHarsh();
        onItsLandAndOn();
        allAtOnce();
        comeTo10OrMore();
        tenAreGone();
        inSuchABeatAlone();
        byThisListAlone();
        fearUpTo9();
        thirtyLists();
        promise31();
        promise32();
        promise33();
        promise34();
        promise35();
        CHECK.end();
    }

    /** "gains 2 SCHOOLING, up to 20"; "how many gain some" */
    private static void gainsTwoUpTo20() {
        int[] before = {0, 17, 18, 19, 20};
        int[] behind = {2, 19, 20, 20, 20};
        for (int i = 0; i < before.length; i++) {
            int schooling = before[i];
            Scene s = NEW.then("schooling " + schooling).does(x -> x.person(5, 1, schooling, 0, NONE));
            s.answers("gain", schooling < 20 ? 1 : 0, x -> x.teach(5));
            s.then("taught").does(x -> x.teach(5)).answers("schooling", behind[i], x -> x.about(0, 2));
        }
    }

    /** "each PERSON there, OFF or STRUCK" */
    private static void eachPersonThereOffOrStruck() {
        Scene s = NEW.then("six").times(6, i -> x -> x.person(i == 5 ? 1 : 0, 0, 4, 0, NONE)).enrolls(0, 1, 2)
                .does(x -> x.put(2, 2), x -> x.put(3, 3), x -> x.put(4, 4));
        s.answers("gain", 2, x -> x.teach(0));
        s.answers("gain in 1", 1, x -> x.teach(1));
        s.answers("gain in 2", 0, x -> x.teach(2));
        int[] behind = {6, 4, 6, 4, 4, 4};
        for (int i = 0; i < 6; i++) {
            int person = i;
            s.then("taught").does(x -> x.teach(0)).answers("schooling of " + person, behind[person],
                    x -> x.about(person, 2));
        }
    }

    /** "of a SORT that k allows (by LAW at the DAY)" */
    private static void ofASortThatKAllows() {
        Scene s = NEW.then("k=1, k=2 from day 1, k=3 from day 2").laws("k=1;k=2@1;k=3@2").does(
                x -> x.person(0, 0, 0, 0, NONE), x -> x.person(0, 1, 0, 0, NONE), x -> x.person(0, 1, 0, 0, NONE));
        int[] gain = {1, 2, 3};
        for (int day = 0; day < 3; day++) {
            Scene then = s.then("day " + day).times(day, i -> x -> x.pass(1));
            then.answers("gain", gain[day], x -> x.teach(0));
            then.answers("ready", gain[day], x -> x.ready(0));
        }
    }

    /** "whose SCHOOLING is at least s (by LAW at the DAY)" */
    private static void readyAtLeastS() {
        Scene s = NEW.then("schooling 0, 4, 5, 6, 20").laws("s=5;s=20@1;s=21@2;s=0@3");
        for (int schooling : new int[] {0, 4, 5, 6, 20}) {
            s.does(x -> x.person(0, 0, schooling, 0, NONE));
        }
        int[] ready = {3, 1, 0, 5};
        for (int day = 0; day < 4; day++) {
            s.then("day " + day).times(day, i -> x -> x.pass(1)).answers("ready", ready[day], x -> x.ready(0));
        }
    }

    private static void readyBeats() {
        Scene s = NEW.then("one in 0, two in 5").does(x -> x.person(0, 0, 0, 0, NONE), x -> x.person(5, 0, 0, 0, NONE),
                x -> x.person(5, 0, 0, 0, NONE));
        s.answers("all", 3, x -> x.ready(NONE));
        s.answers("the first", 1, x -> x.ready(0));
        s.answers("one without", 0, x -> x.ready(1));
        s.answers("the last", 2, x -> x.ready(5));
        s.then("one ON").enrolls(0, 1).answers("ON is not ready", 1, x -> x.ready(5));
    }

    private static void shares(Scene s, int h, int ready, int... lessons) {
        s.answers("helpers " + h + ": ready", ready, x -> x.helpers(h, NONE));
        for (int i = 0; i < 6; i++) {
            int beat = i;
            s.answers("helpers " + h + ": lessons for " + beat, lessons[beat], x -> x.helpers(h, beat));
        }
    }

    /** "with h (0 to 12) LESSONS at most to give to BEATS" */
    private static void twelveLessonsAtMost() {
        Scene s = NEW.then("20 asked").laws("s=20").does(x -> x.person(5, 0, 0, 0, NONE), x -> x.person(4, 1, 16, 0, NONE));
        shares(s, 0, 0, 0, 0, 0, 0, 0, 0);
        shares(s, 1, 0, 0, 0, 0, 0, 0, 0);
        shares(s, 2, 1, 0, 0, 0, 0, 2, 0);
        shares(s, 9, 1, 0, 0, 0, 0, 2, 0);
        shares(s, 10, 1, 0, 0, 0, 0, 2, 0);
        shares(s, 11, 1, 0, 0, 0, 0, 2, 0);
        shares(s, 12, 2, 0, 0, 0, 0, 2, 10);
        shares(NEW, 12, 0, 0, 0, 0, 0, 0, 0);
        shares(NEW, 0, 0, 0, 0, 0, 0, 0, 0);
        s.answers("asked before", 2, x -> {
            x.helpers(12, NONE);
            x.helpers(11, NONE);
            return x.helpers(12, NONE);
        });
        s.answers("fewer behind more", 1, x -> {
            x.helpers(12, NONE);
            return x.helpers(11, NONE);
        });
    }

    /** "of like ones the fewest lessons" */
    private static void ofLikeOnesTheFewestLessons() {
        Scene s = NEW.then("ready").laws("s=5").does(x -> x.person(0, 0, 5, 0, NONE), x -> x.person(1, 0, 3, 0, NONE));
        shares(s, 0, 1, 0, 0, 0, 0, 0, 0);
        shares(s, 1, 2, 0, 1, 0, 0, 0, 0);
        shares(s, 12, 2, 0, 1, 0, 0, 0, 0);
        Scene two = NEW.then("two by one, or by two").laws("s=5").does(x -> x.person(0, 0, 1, 0, NONE),
                x -> x.person(3, 0, 4, 0, NONE));
        shares(two, 2, 1, 0, 0, 0, 1, 0, 0);
        shares(two, 3, 2, 2, 0, 0, 1, 0, 0);
    }

    /** "then that with the most lessons for BEAT 0, then for BEAT 1, .." */
    private static void thenTheMostForBeat0() {
        Scene s = NEW.then("one in each").laws("s=5").times(6, i -> x -> x.person(5 - i, 0, 4, 0, NONE));
        shares(s, 1, 1, 1, 0, 0, 0, 0, 0);
        shares(s, 2, 2, 1, 1, 0, 0, 0, 0);
        shares(s, 5, 5, 1, 1, 1, 1, 1, 0);
        shares(s, 6, 6, 1, 1, 1, 1, 1, 1);
        shares(s, 7, 6, 1, 1, 1, 1, 1, 1);
        Scene later = NEW.then("one in 4 and 5").laws("s=5").does(x -> x.person(5, 0, 4, 0, NONE),
                x -> x.person(4, 1, 4, 0, NONE));
        shares(later, 1, 1, 0, 0, 0, 0, 1, 0);
        Scene uneven = NEW.then("two by two in 0, or one by one in 1 and 2").laws("s=5").does(
                x -> x.person(0, 0, 1, 0, NONE), x -> x.person(0, 0, 1, 0, NONE), x -> x.person(1, 0, 4, 0, NONE),
                x -> x.person(2, 0, 4, 0, NONE));
        shares(uneven, 1, 1, 0, 1, 0, 0, 0, 0);
        shares(uneven, 2, 2, 2, 0, 0, 0, 0, 0);
        shares(uneven, 3, 3, 2, 1, 0, 0, 0, 0);
    }

    /** "(one BEAT may have several)" */
    private static void oneBeatSeveral() {
        Scene s = NEW.then("all in 3").laws("s=20;k=2").does(x -> x.person(3, 1, 1, 0, NONE), x -> x.person(3, 0, 18, 0, NONE),
                x -> x.person(3, 1, 19, 0, NONE));
        shares(s, 1, 1, 0, 0, 0, 1, 0, 0);
        shares(s, 9, 1, 0, 0, 0, 1, 0, 0);
        shares(s, 10, 2, 0, 0, 0, 10, 0, 0);
        shares(s, 12, 2, 0, 0, 0, 10, 0, 0);
    }

    /** An owner in beat 0 that is so harsh, and one of so much fear on its land, ON in beat 1. */
    private static Scene land(int harsh, int fear) {
        return NEW.then("harsh " + harsh + ", fear " + fear).laws("n=0").does(x -> x.person(0, 0, 0, 0, NONE),
                x -> x.person(1, 1, 0, fear, 0), x -> x.harsh(0, harsh)).enrolls(0, 1);
    }

    /** "whose FEAR is less than HARSH, loses its house and is GONE" */
    private static void fearLessThanHarsh() {
        int[][] cases = {{0, 0, 0}, {1, 0, 1}, {1, 1, 0}, {5, 4, 1}, {5, 5, 0}, {5, 6, 0}, {9, 8, 1}, {9, 9, 0}, {9, 0, 1}};
        for (int[] one : cases) {
            Scene s = land(one[0], one[1]);
            s.answers("GONE", one[2], x -> x.list());
            Scene behind = s.then("printed").does(x -> x.list());
            behind.answers("state", one[2] == 1 ? 3 : 1, x -> x.about(1, 5));
            behind.answers("beat", one[2] == 1 ? NONE : 1, x -> x.about(1, 0));
            behind.answers("fear", one[1], x -> x.about(1, 3));
            behind.answers("GONE by it", one[2], x -> x.listIs(0, 2));
            behind.answers("on it", 1, x -> x.listIs(0, 1));
        }
    }

    /** "each of those who live on its land, are ON (on the LIST)" */
    private static void onItsLandAndOn() {
        Scene s = NEW.then("ON, OFF, STRUCK, GONE, DEAD, of another").laws("n=0").times(6,
                i -> x -> x.person(i, i % 2, 0, 0, i == 0 ? NONE : 0));
        s.does(x -> x.person(1, 0, 0, 0, 0), x -> x.person(1, 0, 0, 0, 1), x -> x.harsh(0, 9)).enrolls(0, 1, 3, 7)
                .does(x -> x.put(3, 2), x -> x.put(4, 3), x -> x.put(5, 4));
        s.answers("ON, on its land", 1, x -> x.list());
        Scene behind = s.then("printed").does(x -> x.list());
        int[] states = {0, 3, 0, 2, 3, 4, 0, 1};
        for (int i = 0; i < states.length; i++) {
            int person = i;
            behind.answers("state of " + person, states[person], x -> x.about(person, 5));
        }
    }

    /** "(all at once)" */
    private static void allAtOnce() {
        Scene s = NEW.then("a chain of owners").laws("n=0").times(4, i -> x -> x.person(0, 0, 0, 8, i - 1))
                .times(4, i -> x -> x.harsh(i, 9)).enrolls(0, 0, 1, 2, 3);
        s.answers("all but the first", 3, x -> x.list());
        Scene behind = s.then("printed").does(x -> x.list());
        behind.answers("the first: 8 and 3", 2, x -> x.about(0, 5));
        behind.answers("struck", 1, x -> x.listIs(0, 3));
        behind.answers("fear", 9, x -> x.about(0, 3));
    }

    /** So many of beat 2 are GONE by the list; one of so much fear lives there, ON. */
    private static Scene seen(int gone, int fear) {
        Scene s = NEW.then(gone + " GONE, fear " + fear).laws("n=0").does(x -> x.person(0, 0, 0, 0, NONE),
                x -> x.person(2, 0, 0, fear, NONE)).times(gone, i -> x -> x.person(2, 1, 0, 0, 0));
        int[] all = new int[gone + 1];
        for (int i = 0; i <= gone; i++) {
            all[i] = i + 1;
        }
        return s.enrolls(0, all).does(x -> x.harsh(0, 1));
    }

    /** "whose FEAR, and how many these are, come to 10 or more, is STRUCK at its own wish" */
    private static void comeTo10OrMore() {
        int[][] cases = {{1, 8, 0}, {1, 9, 1}, {2, 7, 0}, {2, 8, 1}, {2, 9, 1}, {5, 4, 0}, {5, 5, 1}, {0, 9, 0}};
        for (int[] one : cases) {
            Scene s = seen(one[0], one[1]).then("printed").does(x -> x.list());
            s.answers("GONE", one[0], x -> x.listIs(0, 2));
            s.answers("STRUCK", one[2], x -> x.listIs(0, 3));
            s.answers("state", one[2] == 1 ? 2 : 1, x -> x.about(1, 5));
            s.answers("beat", 2, x -> x.about(1, 0));
        }
    }

    /** So many that no fear is needed. */
    private static void tenAreGone() {
        Scene nine = seen(9, 0).then("printed").does(x -> x.list());
        nine.answers("9 and 0", 1, x -> x.about(1, 5));
        nine.answers("fear", 1, x -> x.about(1, 3));
        Scene ten = seen(10, 0).then("printed").does(x -> x.list());
        ten.answers("10 and 0", 2, x -> x.about(1, 5));
        ten.answers("fear of one STRUCK", 1, x -> x.about(1, 3));
    }

    /** "of those ON that live in a BEAT in which some are GONE by this LIST" */
    private static void inSuchABeatAlone() {
        Scene s = seen(1, 8).then("others").does(x -> x.person(3, 0, 0, 9, NONE), x -> x.person(2, 0, 0, 9, NONE))
                .enrolls(2, 3).does(x -> x.list());
        s.answers("another beat", 1, x -> x.about(3, 5));
        s.answers("its fear", 9, x -> x.about(3, 3));
        s.answers("one OFF", 0, x -> x.about(4, 5));
        Scene again = s.then("printed again").does(x -> x.list());
        again.answers("none are GONE by this", 0, x -> x.listIs(1, 2));
        again.answers("nobody is STRUCK by it: 9 and 0", 0, x -> x.listIs(1, 3));
        again.answers("fear", 9, x -> x.about(1, 3));
        again.answers("fear in another beat", 0, x -> x.about(0, 3));
    }

    /** "GONE by this LIST": what was by one before counts no more, in any BEAT. */
    private static void byThisListAlone() {
        Scene s = NEW.then("one GONE in each beat").laws("n=0").times(6, i -> x -> x.person(i, 0, 0, 5, NONE))
                .times(6, i -> x -> x.person(i, 1, 0, 0, i)).times(6, i -> x -> x.harsh(i, 1))
                .enrolls(0, 6, 7, 8, 9, 10, 11).does(x -> x.list(), x -> x.list());
        s.answers("by the first", 6, x -> x.listIs(0, 2));
        s.answers("by the second", 0, x -> x.listIs(1, 2));
        for (int i = 0; i < 6; i++) {
            int person = i;
            s.answers("fear by the first alone", 6, x -> x.about(person, 3));
        }
    }

    /** "Behind that FEAR of all that live in such a BEAT is 1 more, up to 9." */
    private static void fearUpTo9() {
        for (int i = 0; i <= 9; i++) {
            int fear = i;
            Scene s = seen(1, 0).then("fear " + fear).does(x -> x.person(2, 0, 0, fear, NONE), x -> x.list());
            s.answers("one OFF", Math.min(9, fear + 1), x -> x.about(3, 3));
            Scene on = seen(1, fear).then("printed").does(x -> x.list());
            on.answers("one ON", Math.min(9, fear + 1), x -> x.about(1, 3));
        }
    }

    /** "LISTS are kept"; "FULL: 30 were" */
    private static void thirtyLists() {
        Scene most = land(9, 0).then("29 lists").times(29, i -> x -> x.list());
        most.answers("the last", 0, x -> x.list());
        most.refuses("one not printed yet", BAD, x -> x.listIs(29, 0));
        Scene full = most.then("a day on, one more").does(x -> x.pass(1), x -> x.list());
        full.answers("so many", 30, x -> x.count(5));
        full.answers("the first", 1, x -> x.listIs(0, 2));
        full.answers("the last one's day", 1, x -> x.listIs(29, 0));
        full.refuses("a 31st", FULL, x -> x.list());
        full.refuses("list 30", BAD, x -> x.listIs(30, 0));
        Scene harsh = full.then("one to lose its house").does(x -> x.person(1, 0, 0, 0, 0)).enrolls(1, 2);
        harsh.refuses("no house is lost by it", FULL, x -> x.list());
    }

    /** "A LESSON in a BEAT: how many gain some. BAD." */
    private static void promise31() {
        TOWN.range("beat", 0, 2, 5, 0, n -> x -> x.teach(n));
        TOWN.answers("the STRUCK one, not the one ON", 1, x -> x.teach(3));
        TOWN.refuses("NONE", BAD, x -> x.teach(NONE));
        NEW.answers("nobody there", 0, x -> x.teach(5));
    }

    /** "How many are READY in a BEAT (NONE: all). BAD." */
    private static void promise32() {
        TOWN.range("beat", NONE, 5, 5, 1, n -> x -> x.ready(n));
        TOWN.answers("the first", 2, x -> x.ready(0));
        NEW.range("beat", NONE, 0, 5, 0, n -> x -> x.ready(n));
    }

    /** "READY ones in all (beat = NONE), lessons for a BEAT. BAD." */
    private static void promise33() {
        Scene s = TOWN.then("s=14").laws("s=14");
        s.range("h", 0, 1, 12, 5, n -> x -> x.helpers(n, NONE));
        s.range("beat", NONE, 5, 5, 0, n -> x -> x.helpers(12, n));
        shares(s, 0, 1, 0, 0, 0, 0, 0, 0);
        shares(s, 3, 2, 3, 0, 0, 0, 0, 0);
        shares(s, 12, 5, 5, 3, 0, 4, 0, 0);
        s.then("asked").does(x -> x.helpers(12, 0)).answers("nothing changes", 8, x -> x.about(0, 2));
    }

    /** "A LIST is printed: how many are GONE by it. FULL: 30 were." */
    private static void promise34() {
        NEW.answers("nobody is there", 0, x -> x.list());
        Scene s = TOWN.then("harsh 5").does(x -> x.harsh(5, 5)).then("6 is ON").enrolls(6, 6);
        s.answers("one", 1, x -> x.list());
        Scene full = s.then("30 lists").times(29, i -> x -> x.list());
        full.refuses("a 31st", FULL, x -> x.list());
    }

    /** "Of a LIST: 0 the DAY, 1 on it, 2 GONE by it, 3 STRUCK by it. BAD." */
    private static void promise35() {
        Scene s = TOWN.then("two more").does(x -> x.pass(5), x -> x.list(), x -> x.pass(1), x -> x.list());
        s.range("list", 0, 2, 2, 8, n -> x -> x.listIs(n, 0));
        s.range("what", 0, 7, 3, 0, n -> x -> x.listIs(1, n));
        s.answers("on it", 1, x -> x.listIs(1, 1));
        NEW.refuses("none was printed", BAD, x -> x.listIs(0, 0));
        Scene none = NEW.then("an empty one").does(x -> x.list());
        for (int i = 0; i < 4; i++) {
            int what = i;
            none.answers("what " + what, 0, x -> x.listIs(0, what));
        }
    }
}
