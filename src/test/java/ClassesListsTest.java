/** Promises 31 to 35: teach, ready, helpers, list, listIs. */
final class ClassesListsTest {
    private static final int NONE = -1, BAD = -2, FULL = -4;
    private static final Check CHECK = new Check("ClassesListsTest");

    private ClassesListsTest() {
    }

    public static void main(String[] args) {
        teach();
        ready();
        helpers();
        helpersOfLike();
        helpersRefused();
        list();
        struck();
        allAtOnce();
        eachByItself();
        fullOfLists();
        CHECK.end();
    }

    private static void teach() {
        FilledRoll x = new FilledRoll();
        for (int beat = 0; beat < 6; beat++) {
            CHECK.due("nobody in " + beat, 0, x.teach(beat));
            CHECK.due("nobody is ready", 0, x.ready(beat));
        }
        CHECK.due("nobody anywhere", 0, x.ready(NONE));
        int[] schooling = {0, 18, 19, 20, 5, 5, 5, 5};
        for (int i = 0; i < 8; i++) {
            x.person(2, i == 4 ? 1 : 0, schooling[i], 0, NONE);
        }
        x.person(3, 0, 5, 0, NONE);
        Check.enroll(x, 5);
        Check.enroll(x, 6);
        x.put(6, 2);
        x.put(7, 3);
        Check.laws(x, "k=1");
        CHECK.due("those who gain", 4, x.teach(2));
        int[] then = {2, 20, 20, 20, 5, 5, 7, 5};
        for (int i = 0; i < 8; i++) {
            CHECK.due("schooling of " + i, then[i], x.about(i, 2));
        }
        CHECK.due("another beat", 5, x.about(8, 2));
        CHECK.due("20 is the most", 2, x.teach(2));
        Check.laws(x, "k=1;k=2@1");
        CHECK.due("k at the day", 2, x.teach(2));
        x.pass(1);
        CHECK.due("k a day later", 1, x.teach(2));
        CHECK.due("sort 1", 7, x.about(4, 2));
        CHECK.due("nobody there", 0, x.teach(0));
        CHECK.due("beat 6", BAD, x.teach(6));
        CHECK.due("NONE", BAD, x.teach(NONE));
    }

    private static void ready() {
        FilledRoll x = new FilledRoll();
        for (int i = 0; i < 6; i++) {
            x.person(i % 3, i % 2, 3 + i, 0, NONE);
        }
        CHECK.due("all", 6, x.ready(NONE));
        CHECK.due("in 2", 2, x.ready(2));
        CHECK.due("in 5", 0, x.ready(5));
        Check.laws(x, "s=6;s=20@5");
        CHECK.due("at least s", 3, x.ready(NONE));
        CHECK.due("in 0", 1, x.ready(0));
        Check.enroll(x, 3);
        CHECK.due("ON ones are not", 2, x.ready(NONE));
        x.put(3, 2);
        CHECK.due("STRUCK ones are", 3, x.ready(NONE));
        x.put(4, 3);
        CHECK.due("GONE ones are not", 2, x.ready(NONE));
        Check.say(x, ";k=1");
        CHECK.due("k", 0, x.ready(NONE));
        Check.laws(x, "s=20@5");
        x.pass(5);
        CHECK.due("s at the day", 0, x.ready(NONE));
        CHECK.due("beat 6", BAD, x.ready(6));
        CHECK.due("beat -2", BAD, x.ready(-2));
    }

    private static void shares(FilledRoll x, int h, int ready, int... lessons) {
        CHECK.due("helpers " + h + ": ready", ready, x.helpers(h, NONE));
        for (int beat = 0; beat < 6; beat++) {
            CHECK.due("helpers " + h + ": lessons for " + beat, lessons[beat], x.helpers(h, beat));
        }
    }

    private static void helpers() {
        FilledRoll x = new FilledRoll();
        x.person(0, 0, 8, 0, NONE);
        x.person(1, 0, 6, 0, NONE);
        x.person(1, 1, 6, 0, NONE);
        x.person(1, 0, 6, 0, NONE);
        x.person(5, 0, 0, 0, NONE);
        x.person(5, 1, 10, 0, NONE);
        x.person(3, 1, 4, 0, NONE);
        Check.laws(x, "s=10");
        shares(x, 0, 1, 0, 0, 0, 0, 0, 0);
        shares(x, 1, 2, 1, 0, 0, 0, 0, 0);
        shares(x, 2, 4, 0, 2, 0, 0, 0, 0);
        shares(x, 3, 5, 1, 2, 0, 0, 0, 0);
        shares(x, 4, 5, 1, 2, 0, 0, 0, 0);
        shares(x, 6, 6, 1, 2, 0, 3, 0, 0);
        shares(x, 11, 7, 1, 2, 0, 3, 0, 5);
        shares(x, 12, 7, 1, 2, 0, 3, 0, 5);
        CHECK.due("nothing changes", 8, x.about(0, 2));
        Check.laws(x, "s=10;k=2");
        shares(x, 12, 3, 0, 2, 0, 3, 0, 0);
        Check.laws(x, "s=99");
        shares(x, 12, 0, 0, 0, 0, 0, 0, 0);
    }

    private static void helpersOfLike() {
        FilledRoll x = new FilledRoll();
        for (int beat = 5; beat >= 0; beat--) {
            x.person(beat, 0, beat == 3 ? 6 : 8, 0, NONE);
        }
        x.person(3, 0, 6, 0, NONE);
        Check.laws(x, "s=10");
        shares(x, 1, 1, 1, 0, 0, 0, 0, 0);
        shares(x, 2, 2, 1, 1, 0, 0, 0, 0);
        shares(x, 4, 4, 1, 1, 1, 0, 1, 0);
        shares(x, 5, 5, 1, 1, 1, 2, 0, 0);
        shares(x, 3, 3, 1, 1, 1, 0, 0, 0);
        shares(x, 12, 7, 1, 1, 1, 2, 1, 1);
    }

    private static void helpersRefused() {
        FilledRoll x = new FilledRoll();
        CHECK.due("13", BAD, x.helpers(13, NONE));
        CHECK.due("-1", BAD, x.helpers(-1, NONE));
        CHECK.due("beat 6", BAD, x.helpers(1, 6));
        CHECK.due("beat -2", BAD, x.helpers(1, -2));
    }

    private static void on(FilledRoll x, int beat, int fear, int owner) {
        int person = x.person(beat, 0, 0, fear, owner);
        Check.enroll(x, person);
    }

    private static void list() {
        FilledRoll x = new FilledRoll();
        x.person(0, 0, 0, 0, NONE);
        on(x, 1, 4, 0);
        on(x, 1, 5, 0);
        on(x, 2, 4, NONE);
        on(x, 1, 3, 1);
        x.person(1, 0, 0, 1, 0);
        on(x, 1, 0, 0);
        x.put(6, 2);
        x.harsh(0, 5);
        x.pass(7);
        CHECK.due("GONE: ON, on its land, fear below", 1, x.list());
        CHECK.due("GONE", 3, x.about(1, 5));
        CHECK.due("no beat", NONE, x.about(1, 0));
        CHECK.due("fear 5 stays", 1, x.about(2, 5));
        CHECK.due("OFF stays", 0, x.about(5, 5));
        CHECK.due("STRUCK stays", 2, x.about(6, 5));
        int[] fear = {0, 4, 6, 4, 4, 2, 1};
        for (int i = 0; i < 7; i++) {
            CHECK.due("fear of " + i, fear[i], x.about(i, 3));
        }
        int[] is = {7, 4, 1, 0};
        for (int what = 0; what < 4; what++) {
            CHECK.due("list is " + what, is[what], x.listIs(0, what));
        }
        CHECK.due("no more", 0, x.list());
        CHECK.due("on the second", 3, x.listIs(1, 1));
        CHECK.due("fear is as before", 6, x.about(2, 3));
        x.harsh(1, 9);
        CHECK.due("one GONE is harsh still", 1, x.list());
        CHECK.due("who lived on its land", 3, x.about(4, 5));
        CHECK.due("list 3", BAD, x.listIs(3, 0));
        CHECK.due("list -1", BAD, x.listIs(-1, 0));
        CHECK.due("what 4", BAD, x.listIs(0, 4));
        CHECK.due("what -1", BAD, x.listIs(0, -1));
    }

    private static void struck() {
        FilledRoll x = new FilledRoll();
        x.person(0, 0, 0, 0, NONE);
        on(x, 1, 0, 0);
        on(x, 1, 0, 0);
        on(x, 1, 8, NONE);
        on(x, 1, 7, NONE);
        on(x, 1, 9, 0);
        on(x, 2, 9, NONE);
        x.person(1, 0, 0, 9, NONE);
        x.harsh(0, 1);
        CHECK.due("two GONE", 2, x.list());
        CHECK.due("8 and 2", 2, x.about(3, 5));
        CHECK.due("7 and 2", 1, x.about(4, 5));
        CHECK.due("9 and 2", 2, x.about(5, 5));
        CHECK.due("another beat", 1, x.about(6, 5));
        CHECK.due("OFF", 0, x.about(7, 5));
        CHECK.due("struck by it", 2, x.listIs(0, 3));
        CHECK.due("on it", 6, x.listIs(0, 1));
        CHECK.due("fear of one struck", 9, x.about(3, 3));
        CHECK.due("up to 9", 9, x.about(5, 3));
        CHECK.due("8 now", 8, x.about(4, 3));
        CHECK.due("a beat without", 9, x.about(6, 3));
    }

    private static void allAtOnce() {
        FilledRoll x = new FilledRoll();
        on(x, 0, 9, NONE);
        on(x, 0, 0, 0);
        on(x, 3, 0, 1);
        on(x, 3, 9, 2);
        for (int i = 0; i < 4; i++) {
            x.harsh(i, 9);
        }
        CHECK.due("owners that are GONE by it are harsh by it", 2, x.list());
        CHECK.due("first", 3, x.about(1, 5));
        CHECK.due("second", 3, x.about(2, 5));
        CHECK.due("fear 9 is not less than 9; 9 and 1", 2, x.about(3, 5));
        CHECK.due("beat 0: 9 and 1", 2, x.about(0, 5));
    }

    private static void eachByItself() {
        FilledRoll x = new FilledRoll();
        for (int beat = 0; beat < 6; beat++) {
            int owner = x.person(beat, 1, 0, 5, NONE);
            on(x, beat, 0, owner);
            x.harsh(owner, 1);
        }
        CHECK.due("one in each", 6, x.list());
        CHECK.due("none any more", 0, x.list());
        for (int owner = 0; owner < 12; owner += 2) {
            CHECK.due("fear by the first alone", 6, x.about(owner, 3));
        }
    }

    private static void fullOfLists() {
        FilledRoll x = new FilledRoll();
        for (int i = 0; i < 30; i++) {
            CHECK.due("list", 0, x.list());
        }
        CHECK.due("31st", FULL, x.list());
        CHECK.due("30 lists", 30, x.count(5));
        CHECK.due("the last", 0, x.listIs(29, 1));
        CHECK.due("30", BAD, x.listIs(30, 0));
    }
}
