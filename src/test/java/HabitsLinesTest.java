/** Promises 21 to 30: rules, rule, unlike, proves, minutes, office, stand, leave, sees, begun. */
final class HabitsLinesTest {
    private static final int NONE = -1, BAD = -2, FULL = -4;
    private static final Check CHECK = new Check("HabitsLinesTest");

    private HabitsLinesTest() {
    }

    public static void main(String[] args) {
        noForms();
        rules();
        noRule();
        unlike();
        minutes();
        office();
        stand();
        line();
        closing();
        CHECK.end();
    }

    /** Four persons, two of each sort, and questions 0 to 4 whose right answer is 1. */
    private static FilledRoll four() {
        FilledRoll x = new FilledRoll();
        for (int i = 0; i < 4; i++) {
            x.person(0, i % 2, 0, 0, NONE);
        }
        Check.laws(x, "q0=1;q1=1;q2=1;q3=1;q4=1");
        return x;
    }

    /** A form with so many right ones, read by a clerk. */
    private static int form(FilledRoll x, int person, int right, int clerk, boolean passed) {
        x.sheet(0, 2, 5);
        for (int i = 0; i < right; i++) {
            x.lay(0, 2, i, 1);
        }
        int form = x.form(person, 0);
        x.read(form, clerk, passed, 4);
        return form;
    }

    private static void noForms() {
        FilledRoll x = new FilledRoll();
        CHECK.due("all rules fit", 484, x.rules(2));
        CHECK.due("first", 0, x.rule(2, 0));
        CHECK.due("22nd", 21, x.rule(2, 21));
        CHECK.due("23rd", 100, x.rule(2, 22));
        CHECK.due("last", 2121, x.rule(2, 483));
        CHECK.due("behind it", NONE, x.rule(2, 484));
        CHECK.due("far behind it", NONE, x.rule(2, Integer.MAX_VALUE));
        CHECK.due("i -1", BAD, x.rule(2, -1));
        CHECK.due("rule of 4", BAD, x.rule(4, 0));
        CHECK.due("rule of -1", BAD, x.rule(-1, 0));
        CHECK.due("rules of 4", BAD, x.rules(4));
        CHECK.due("rules of -1", BAD, x.rules(-1));
        CHECK.due("unlike", 0, x.unlike(0));
        CHECK.due("unlike of 4", BAD, x.unlike(4));
        CHECK.due("unlike of -1", BAD, x.unlike(-1));
        CHECK.due("proves", NONE, x.proves(3));
        CHECK.due("proves of 4", BAD, x.proves(4));
        CHECK.due("proves of -1", BAD, x.proves(-1));
    }

    private static void rules() {
        FilledRoll x = four();
        form(x, 0, 1, 1, false);
        form(x, 1, 3, 1, false);
        form(x, 0, 4, 1, true);
        CHECK.due("a 2 to 4, b 4 to 21", 3 * 18, x.rules(1));
        CHECK.due("first", 204, x.rule(1, 0));
        CHECK.due("last of the first a", 221, x.rule(1, 17));
        CHECK.due("next a", 304, x.rule(1, 18));
        CHECK.due("last", 421, x.rule(1, 53));
        CHECK.due("none behind", NONE, x.rule(1, 54));
        CHECK.due("other clerks", 484, x.rules(0));
        form(x, 1, 5, 1, true);
        CHECK.due("b 4 to 5", 6, x.rules(1));
        CHECK.due("third", 304, x.rule(1, 2));
        x.pass(1);
        form(x, 2, 2, 1, false);
        CHECK.due("a 3 to 4", 4, x.rules(1));
        x.asOf(0);
        CHECK.due("as it was known", 6, x.rules(1));
        CHECK.due("as it was known, the first", 204, x.rule(1, 0));
    }

    private static void noRule() {
        FilledRoll x = four();
        form(x, 0, 3, 0, false);
        form(x, 0, 3, 0, true);
        CHECK.due("none fits", 0, x.rules(0));
        CHECK.due("no first", NONE, x.rule(0, 0));
        FilledRoll y = four();
        form(y, 0, 0, 0, true);
        form(y, 1, 3, 0, false);
        form(y, 1, 2, 0, true);
        CHECK.due("none fits sort 1", 0, y.rules(0));
        CHECK.due("no first of it", NONE, y.rule(0, 0));
        Check.laws(y, "q0=1;q1=2;q2=1;q3=1");
        CHECK.due("right ones by the laws now: 2 refused, 1 passed", 0, y.rules(0));
        Check.laws(y, "n=1");
        CHECK.due("none right: passed and refused alike", 0, y.rules(0));
    }

    private static void unlike() {
        FilledRoll x = four();
        form(x, 1, 3, 2, false);
        form(x, 0, 3, 2, true);
        CHECK.due("as many", 1, x.unlike(2));
        CHECK.due("the passed one first", 100, x.proves(2));
        form(x, 1, 2, 2, false);
        CHECK.due("fewer", 1, x.unlike(2));
        form(x, 2, 5, 2, false);
        CHECK.due("of like sorts", 1, x.unlike(2));
        form(x, 3, 4, 2, false);
        CHECK.due("more", 2, x.unlike(2));
        form(x, 3, 5, 3, false);
        CHECK.due("another clerk's", 2, x.unlike(2));
        CHECK.due("the first refused", 100, x.proves(2));
        form(x, 3, 1, 2, true);
        CHECK.due("the other way too", 3, x.unlike(2));
        CHECK.due("still the first", 100, x.proves(2));
        x.pass(1);
        form(x, 1, 5, 2, false);
        CHECK.due("a day later", 4, x.unlike(2));
        x.asOf(0);
        CHECK.due("as it was known", 3, x.unlike(2));
        x.asOf(NONE);
        Check.laws(x, "q3=1");
        CHECK.due("right ones by the laws now", 5, x.unlike(2));
        CHECK.due("the first is the same", 100, x.proves(2));
        FilledRoll y = four();
        form(y, 0, 2, 0, true);
        form(y, 2, 1, 0, true);
        form(y, 1, 0, 0, false);
        form(y, 1, 1, 0, false);
        CHECK.due("1, then 3", 103, y.proves(0));
    }

    private static void minutes() {
        FilledRoll x = new FilledRoll();
        for (int clerk = 0; clerk < 4; clerk++) {
            CHECK.due("at first", 20, x.minutes(clerk, 0, 1));
            CHECK.due("at first", 20, x.minutes(clerk, 1, 120 - clerk));
        }
        for (int clerk = 0; clerk < 4; clerk++) {
            CHECK.due("were", 1, x.minutes(clerk, 0, 2));
            CHECK.due("were", 120 - clerk, x.minutes(clerk, 1, 3));
        }
        CHECK.due("0", BAD, x.minutes(0, 0, 0));
        CHECK.due("121", BAD, x.minutes(0, 0, 121));
        CHECK.due("sort 2", BAD, x.minutes(0, 2, 1));
        CHECK.due("sort -1", BAD, x.minutes(0, -1, 1));
        CHECK.due("clerk 4", BAD, x.minutes(4, 0, 1));
        CHECK.due("clerk -1", BAD, x.minutes(-1, 1, 1));
        CHECK.due("unchanged", 2, x.minutes(0, 0, 2));
    }

    private static void office() {
        FilledRoll x = new FilledRoll();
        CHECK.due("127", 1, x.office(127, 0, 1439));
        CHECK.due("128", BAD, x.office(128, 0, 1439));
        CHECK.due("-1", BAD, x.office(-1, 0, 1439));
        CHECK.due("to 1440", BAD, x.office(1, 0, 1440));
        CHECK.due("from -1", BAD, x.office(1, -1, 5));
        CHECK.due("like", BAD, x.office(1, 7, 7));
        CHECK.due("behind", BAD, x.office(1, 8, 7));
        CHECK.due("next", 1, x.office(1, 7, 8));
        CHECK.due("on no day", 1, x.office(0, 0, 1));
        x.person(0, 0, 0, 0, NONE);
        x.stand(0, 0);
        x.office(1 << 3, 100, 200);
        for (int day = 0; day < 14; day++) {
            CHECK.due("open on day " + day, day % 7 == 3 ? 1 : 0, x.sees(0, day));
        }
        CHECK.due("day 399 is none", 0, x.sees(0, 399));
        CHECK.due("day 395 is", 1, x.sees(0, 395));
    }

    private static void stand() {
        FilledRoll x = new FilledRoll();
        for (int i = 0; i < 26; i++) {
            x.person(0, 0, 0, 0, NONE);
        }
        CHECK.due("person 26", BAD, x.stand(26, 0));
        CHECK.due("person -1", BAD, x.stand(-1, 0));
        CHECK.due("minute 1440", BAD, x.stand(0, 1440));
        CHECK.due("minute -1", BAD, x.stand(0, -1));
        for (int i = 0; i < 24; i++) {
            CHECK.due("stand", i + 1, x.stand(i, 1439 - i));
        }
        CHECK.due("again", BAD, x.stand(23, 0));
        CHECK.due("25th", FULL, x.stand(24, 0));
        CHECK.due("in line", 24, x.count(6));
        CHECK.due("leave", 24, x.leave());
        CHECK.due("leave", 0, x.leave());
        CHECK.due("anew", 1, x.stand(24, 0));
        CHECK.due("not from before", BAD, x.begun(0, 0, 23));
        CHECK.due("none from before is seen", 1, x.sees(0, 0));
    }

    private static void line() {
        FilledRoll x = new FilledRoll();
        for (int i = 0; i < 5; i++) {
            x.person(0, i % 2, 0, 0, NONE);
        }
        x.minutes(0, 0, 10);
        x.minutes(0, 1, 30);
        x.stand(3, 600);
        x.stand(0, 600);
        x.stand(4, 100);
        x.stand(1, 700);
        CHECK.due("sees", 4, x.sees(0, 0));
        CHECK.due("at opening", 540, x.begun(0, 0, 4));
        CHECK.due("at its minute", 600, x.begun(0, 0, 3));
        CHECK.due("as they were told", 630, x.begun(0, 0, 0));
        CHECK.due("at its minute", 700, x.begun(0, 0, 1));
        CHECK.due("another clerk", 620, x.begun(1, 0, 0));
        CHECK.due("not open", NONE, x.begun(0, 1, 4));
        CHECK.due("who does not stand there", BAD, x.begun(0, 0, 2));
        CHECK.due("no such person", BAD, x.begun(0, 0, 5));
        CHECK.due("NONE", BAD, x.begun(0, 0, NONE));
        CHECK.due("clerk 4", BAD, x.begun(4, 0, 4));
        CHECK.due("clerk -1", BAD, x.begun(-1, 0, 4));
        CHECK.due("day 400", BAD, x.begun(0, 400, 4));
        CHECK.due("day -1", BAD, x.begun(0, -1, 4));
        x.stand(2, 610);
        CHECK.due("between them", 640, x.begun(0, 0, 2));
        CHECK.due("behind it", 700, x.begun(0, 0, 1));
        CHECK.due("sees: clerk 4", BAD, x.sees(4, 0));
        CHECK.due("sees: clerk -1", BAD, x.sees(-1, 0));
        CHECK.due("sees: day 400", BAD, x.sees(0, 400));
        CHECK.due("sees: day -1", BAD, x.sees(0, -1));
    }

    private static void closing() {
        FilledRoll x = new FilledRoll();
        x.person(0, 0, 0, 0, NONE);
        x.person(0, 1, 0, 0, NONE);
        x.person(0, 0, 0, 0, NONE);
        x.stand(0, 0);
        x.stand(1, 0);
        x.stand(2, 0);
        x.minutes(0, 1, 100);
        x.minutes(1, 0, 120);
        x.minutes(1, 1, 120);
        x.minutes(2, 0, 119);
        CHECK.due("540 to 1020 at first", 3, x.sees(1, 0));
        x.stand(x.person(0, 0, 0, 0, NONE), 902);
        CHECK.due("902 and 119 are not by 1020", 3, x.sees(2, 0));
        x.leave();
        x.stand(3, 901);
        CHECK.due("901 and 119 are", 1, x.sees(2, 0));
        x.leave();
        for (int i = 0; i < 3; i++) {
            x.stand(i, 0);
        }
        x.office(1, 0, 140);
        CHECK.due("done by closing", 3, x.sees(0, 0));
        x.office(1, 0, 139);
        CHECK.due("one is not done", 2, x.sees(0, 0));
        CHECK.due("not seen", NONE, x.begun(0, 0, 2));
        x.office(1, 0, 100);
        CHECK.due("those behind are not seen either", 1, x.sees(0, 0));
        CHECK.due("behind", NONE, x.begun(0, 0, 2));
        CHECK.due("the first", 0, x.begun(0, 0, 0));
        x.office(1, 0, 19);
        CHECK.due("none", 0, x.sees(0, 0));
    }
}
