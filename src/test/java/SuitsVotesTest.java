/** Promises 36 to 41: ripe, order, number, chosen, changed, wins. */
final class SuitsVotesTest {
    private static final int NONE = -1, BAD = -2;
    private static final Check CHECK = new Check("SuitsVotesTest");

    private SuitsVotesTest() {
    }

    public static void main(String[] args) {
        ripe();
        ripeRefused();
        order();
        number();
        numberRefused();
        votes();
        wins();
        CHECK.end();
    }

    private static void ripe() {
        FilledRoll x = new FilledRoll();
        x.person(0, 1, 5, 0, NONE);
        x.person(0, 0, 5, 0, NONE);
        x.person(0, 1, 0, 0, NONE);
        x.sheet(0, 0, 0);
        Check.laws(x, "n=0;s=3");
        for (int day = 0; day < 6; day++) {
            x.form(0, 0);
            x.form(1, 0);
            x.form(2, 0);
            x.pass(1);
        }
        // Forms 3 d (sort 1, by text), 3 d + 1 (sort 0), 3 d + 2 (sort 1, not by text) of day d.
        int[][] readOn = {{9, 8}, {0, 7}, {1, 7}, {2, 7}, {3, 6}, {6, 10}, {12, 9}};
        for (int day = 6; day <= 10; day++) {
            for (int[] one : readOn) {
                if (one[1] == day) {
                    x.read(one[0], one[0] % 4, false, 4);
                }
            }
            x.pass(1);
        }
        x.read(15, 0, true, 0);
        CHECK.due("1", 6, x.ripe(1, 0, 399));
        CHECK.due("2", 7, x.ripe(2, 0, 399));
        CHECK.due("3", 8, x.ripe(3, 0, 399));
        CHECK.due("4", 9, x.ripe(4, 0, 399));
        CHECK.due("5", 10, x.ripe(5, 0, 399));
        CHECK.due("6: the passed one does not count", NONE, x.ripe(6, 0, 399));
        CHECK.due("one day", 7, x.ripe(1, 0, 0));
        CHECK.due("one day, 2", NONE, x.ripe(2, 0, 0));
        CHECK.due("from 1", 8, x.ripe(2, 1, 3));
        CHECK.due("from 1 to 2", 10, x.ripe(2, 1, 2));
        CHECK.due("day 4", 9, x.ripe(1, 4, 4));
        CHECK.due("day 5", NONE, x.ripe(1, 5, 399));
        x.asOf(8);
        CHECK.due("as of 8", 8, x.ripe(3, 0, 399));
        CHECK.due("not known", NONE, x.ripe(4, 0, 399));
        x.asOf(NONE);
        Check.laws(x, "n=0;s=6");
        CHECK.due("none by text now", NONE, x.ripe(1, 0, 399));
    }

    private static void ripeRefused() {
        FilledRoll x = new FilledRoll();
        x.person(0, 1, 5, 0, NONE);
        x.sheet(0, 0, 0);
        Check.laws(x, "n=0");
        x.form(0, 0);
        x.read(0, 0, false, 0);
        CHECK.due("on day 0", 0, x.ripe(1, 0, 0));
        CHECK.due("asked again", NONE, x.ripe(2, 0, 0));
        for (int i = 0; i < 3; i++) {
            x.pass(100);
        }
        x.pass(99);
        x.form(0, 0);
        x.read(1, 0, false, 0);
        CHECK.due("on the last day", 399, x.ripe(1, 399, 399));
        CHECK.due("by the last day", 399, x.ripe(2, 0, 399));
        Check.laws(x, "n=1");
        CHECK.due("none of the last day any more", NONE, x.ripe(1, 399, 399));
        CHECK.due("30", NONE, x.ripe(30, 0, 399));
        CHECK.due("31", BAD, x.ripe(31, 0, 399));
        CHECK.due("0", BAD, x.ripe(0, 0, 399));
        CHECK.due("from -1", BAD, x.ripe(1, -1, 399));
        CHECK.due("to 400", BAD, x.ripe(1, 0, 400));
        CHECK.due("from behind to", BAD, x.ripe(1, 6, 5));
        CHECK.due("like", NONE, x.ripe(1, 5, 5));
    }

    private static void order() {
        FilledRoll x = new FilledRoll();
        for (int clerk = 0; clerk < 4; clerk++) {
            CHECK.due("none at first", NONE, x.order(clerk, 10 * clerk));
        }
        for (int clerk = 0; clerk < 4; clerk++) {
            CHECK.due("was", 10 * clerk, x.order(clerk, NONE));
        }
        CHECK.due("none any more", NONE, x.order(3, 399));
        CHECK.due("day 400", BAD, x.order(3, 400));
        CHECK.due("day -2", BAD, x.order(3, -2));
        CHECK.due("clerk 4", BAD, x.order(4, 0));
        CHECK.due("clerk -1", BAD, x.order(-1, 0));
        CHECK.due("unchanged", 399, x.order(3, 5));
    }

    private static void number() {
        FilledRoll x = new FilledRoll();
        for (int i = 0; i < 5; i++) {
            x.person(i, i % 2, 0, 0, NONE);
            Check.enroll(x, i);
        }
        CHECK.due("nothing is asked", 0, x.number(100, 100, 0, 0));
        Check.laws(x, "s=0;n=5;k=1");
        CHECK.due("s 0 asks nothing", 0, x.number(100, 100, 0, 0));
        Check.laws(x, "s=1@3;q7=0@5;s=0@4");
        CHECK.due("on day 2", 0, x.number(100, 100, 0, 2));
        CHECK.due("on day 3: schooling", 2, x.number(100, 100, 0, 3));
        CHECK.due("on day 4", 0, x.number(100, 100, 0, 4));
        CHECK.due("on day 5: answers", 2, x.number(100, 100, 0, 5));
        CHECK.due("5 of 10 are not fewer than 50", 0, x.number(50, 10, 0, 5));
        CHECK.due("than 51", 2, x.number(51, 10, 0, 5));
        CHECK.due("5 of 11 are", 2, x.number(50, 11, 0, 5));
        CHECK.due("9 to 11 may be", 1, x.number(50, 10, 1, 5));
        CHECK.due("10 to 12 may be", 1, x.number(50, 11, 1, 5));
        CHECK.due("11 to 13 surely", 2, x.number(50, 12, 1, 5));
        CHECK.due("8 to 10 are not", 0, x.number(50, 9, 1, 5));
        CHECK.due("fewer than are ON", 0, x.number(100, 3, 2, 5));
        CHECK.due("most", 2, x.number(100, 1000, 100, 5));
        CHECK.due("least", 1, x.number(1, 450, 100, 5));
        CHECK.due("5 in 501", 2, x.number(1, 501, 0, 5));
        CHECK.due("5 in 500", 0, x.number(1, 500, 0, 5));
        x.put(0, 2);
        CHECK.due("4 of 10", 2, x.number(50, 10, 1, 5));
    }

    private static void numberRefused() {
        FilledRoll x = new FilledRoll();
        CHECK.due("p 0", BAD, x.number(0, 10, 0, 0));
        CHECK.due("p 101", BAD, x.number(101, 10, 0, 0));
        CHECK.due("census 0", BAD, x.number(50, 0, 0, 0));
        CHECK.due("census 1001", BAD, x.number(50, 1001, 0, 0));
        CHECK.due("error -1", BAD, x.number(50, 10, -1, 0));
        CHECK.due("error 101", BAD, x.number(50, 1000, 101, 0));
        CHECK.due("error 10 of 10", BAD, x.number(50, 10, 10, 0));
        CHECK.due("error 9 of 10", 0, x.number(50, 10, 9, 0));
        CHECK.due("census 1", 0, x.number(50, 1, 0, 0));
        CHECK.due("day 400", BAD, x.number(50, 10, 0, 400));
        CHECK.due("day -1", BAD, x.number(50, 10, 0, -1));
    }

    /** So many ON and OFF in a beat, by sort. */
    private static void beat(FilledRoll x, int beat, int on0, int on1, int off0, int off1) {
        int[] many = {on0, on1, off0, off1};
        for (int kind = 0; kind < 4; kind++) {
            for (int i = 0; i < many[kind]; i++) {
                int person = x.person(beat, kind % 2, 0, 0, NONE);
                if (kind < 2) {
                    Check.enroll(x, person);
                }
            }
        }
    }

    private static void votes() {
        FilledRoll x = new FilledRoll();
        beat(x, 0, 3, 1, 0, 3);
        beat(x, 1, 1, 3, 2, 5);
        beat(x, 2, 2, 2, 0, 1);
        beat(x, 3, 2, 2, 1, 0);
        beat(x, 4, 1, 1, 0, 0);
        int[] chosen = {0, 1, NONE, NONE, NONE, NONE};
        int[] changed = {3, NONE, 1, 1, NONE, NONE};
        for (int beat = 0; beat < 6; beat++) {
            CHECK.due("chosen in " + beat, chosen[beat], x.chosen(beat));
            CHECK.due("changed in " + beat, changed[beat], x.changed(beat));
        }
        x.put(x.person(1, 0, 0, 0, NONE), 3);
        CHECK.due("GONE ones do not count", NONE, x.changed(1));
        x.person(1, 0, 0, 0, NONE);
        CHECK.due("one OFF more", 3, x.changed(1));
        x.put(0, 2);
        CHECK.due("a STRUCK one votes no more", 0, x.chosen(0));
        CHECK.due("2 are enough", 2, x.changed(0));
        Check.laws(x, "k=1");
        CHECK.due("no law is asked", 2, x.changed(0));
        x.put(1, 2);
        CHECK.due("1 and 1", NONE, x.chosen(0));
        CHECK.due("1, a STRUCK or an OFF one", 1, x.changed(0));
        FilledRoll y = new FilledRoll();
        beat(y, 3, 1, 4, 0, 0);
        y.put(1, 2);
        y.put(2, 2);
        CHECK.due("by one", 1, y.chosen(3));
        y.put(3, 2);
        CHECK.due("like", NONE, y.chosen(3));
        CHECK.due("a STRUCK one", 1, y.changed(3));
        y.put(4, 2);
        CHECK.due("by one of 0", 0, y.chosen(3));
        CHECK.due("two STRUCK ones", 2, y.changed(3));
        CHECK.due("chosen: 6", BAD, x.chosen(6));
        CHECK.due("chosen: NONE", BAD, x.chosen(NONE));
        CHECK.due("changed: 6", BAD, x.changed(6));
        CHECK.due("changed: NONE", BAD, x.changed(NONE));
    }

    private static void wins() {
        FilledRoll x = new FilledRoll();
        CHECK.due("none needed", 0, x.wins(0));
        CHECK.due("nobody there", NONE, x.wins(1));
        beat(x, 0, 3, 0, 0, 4);
        beat(x, 1, 0, 1, 0, 3);
        beat(x, 2, 2, 0, 0, 2);
        beat(x, 3, 2, 2, 5, 1);
        beat(x, 4, 1, 0, 0, 3);
        beat(x, 5, 1, 2, 0, 0);
        int[] want = {0, 0, 0, 1, 3, 7, NONE};
        for (int w = 0; w <= 6; w++) {
            CHECK.due("wins " + w, want[w], x.wins(w));
        }
        FilledRoll y = new FilledRoll();
        beat(y, 2, 1, 0, 0, 2);
        beat(y, 1, 2, 0, 0, 4);
        CHECK.due("the cheapest costs, too", 2, y.wins(1));
        CHECK.due("both", 5, y.wins(2));
        CHECK.due("7", BAD, x.wins(7));
        CHECK.due("-1", BAD, x.wins(-1));
    }
}
