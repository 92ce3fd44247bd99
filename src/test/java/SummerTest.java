/** Promises 42 to 45: choice, drop, judge, best. */
final class SummerTest {
    private static final int NONE = -1, BAD = -2, FULL = -4;
    private static final Check CHECK = new Check("SummerTest");

    private SummerTest() {
    }

    public static void main(String[] args) {
        choice();
        judge();
        answersAsked();
        whoRides();
        best();
        bestOfLike();
        CHECK.end();
    }

    private static void choice() {
        FilledRoll x = new FilledRoll();
        CHECK.due("no such person", BAD, x.choice(true, 0, 0));
        CHECK.due("person -1", BAD, x.choice(true, -1, 0));
        x.person(0, 0, 0, 0, NONE);
        CHECK.due("beat 6", BAD, x.choice(false, 6, 0));
        CHECK.due("beat -1", BAD, x.choice(false, -1, 0));
        CHECK.due("price 101", BAD, x.choice(false, 0, 101));
        CHECK.due("price -1", BAD, x.choice(true, 0, -1));
        CHECK.due("none yet", 0, x.count(7));
        CHECK.due("ride", 1, x.choice(true, 0, 100));
        for (int i = 2; i <= 8; i++) {
            CHECK.due("lesson", i, x.choice(false, 5, 100));
        }
        CHECK.due("ninth", FULL, x.choice(false, 5, 0));
        CHECK.due("BAD ahead of FULL", BAD, x.choice(false, 6, 0));
        CHECK.due("price of all", 800, x.judge(255, 2));
        CHECK.due("bits 256", BAD, x.judge(256, 2));
        CHECK.due("drop", 8, x.drop());
        CHECK.due("drop", 0, x.drop());
        CHECK.due("no bits", BAD, x.judge(1, 0));
        CHECK.due("anew", 1, x.choice(false, 0, 3));
        CHECK.due("its own price", 3, x.judge(1, 2));
    }

    private static void judge() {
        FilledRoll x = new FilledRoll();
        x.person(0, 0, 6, 0, NONE);
        x.person(0, 1, 4, 0, NONE);
        x.person(1, 1, 8, 0, NONE);
        Check.laws(x, "n=0;s=8");
        x.choice(true, 0, 1);
        x.choice(false, 0, 2);
        x.choice(true, 0, 4);
        x.choice(false, 0, 8);
        x.choice(true, 1, 16);
        x.choice(true, 0, 32);
        CHECK.due("nothing: on", 0, x.judge(0, 0));
        CHECK.due("nothing: ready", 1, x.judge(0, 1));
        CHECK.due("nothing: price", 0, x.judge(0, 2));
        CHECK.due("too early", 0, x.judge(3, 0));
        CHECK.due("ready by it", 2, x.judge(3, 1));
        CHECK.due("in order", 1, x.judge(6, 0));
        CHECK.due("ON ones are not ready", 1, x.judge(6, 1));
        CHECK.due("once", 1, x.judge(2 + 4 + 32, 0));
        CHECK.due("all: on", 2, x.judge(63, 0));
        CHECK.due("all: ready", 1, x.judge(63, 1));
        CHECK.due("all: price", 63, x.judge(63, 2));
        x.choice(true, 2, 0);
        x.choice(true, 2, 0);
        CHECK.due("another one, once", 1, x.judge(64 + 128, 0));
        CHECK.due("and it is not ready", 0, x.judge(64 + 128, 1));
        CHECK.due("later ride", 1, x.judge(1 + 2 + 32, 0));
        CHECK.due("price", 35, x.judge(35, 2));
        CHECK.due("nothing changes", 6, x.about(0, 2));
        CHECK.due("nobody is ON", 0, x.count(2));
        CHECK.due("no form", 0, x.count(3));
        CHECK.due("bits -1", BAD, x.judge(-1, 0));
        CHECK.due("bits 256", BAD, x.judge(256, 0));
        CHECK.due("what 3", BAD, x.judge(0, 3));
        CHECK.due("what -1", BAD, x.judge(0, -1));
    }

    private static void answersAsked() {
        FilledRoll x = new FilledRoll();
        x.person(0, 0, 6, 0, NONE);
        x.choice(true, 0, 0);
        CHECK.due("none is right, n is 1", 0, x.judge(1, 0));
        Check.laws(x, "q3=7");
        CHECK.due("all right answers: 1", 1, x.judge(1, 0));
        Check.laws(x, "q0=7");
        CHECK.due("of the first", 1, x.judge(1, 0));
        Check.laws(x, "q19=7");
        CHECK.due("of the last", 1, x.judge(1, 0));
        Check.laws(x, "q3=7;q4=7;n=3");
        CHECK.due("2 of 3", 0, x.judge(1, 0));
        Check.laws(x, "q3=7;q4=7;q5=1@1;n=3");
        CHECK.due("2 of 3 at the day", 0, x.judge(1, 0));
        x.pass(1);
        CHECK.due("3 of 3 a day later", 1, x.judge(1, 0));
    }

    private static void whoRides() {
        FilledRoll x = new FilledRoll();
        for (int i = 0; i < 5; i++) {
            x.person(i, i == 4 ? 1 : 0, 19, 0, NONE);
            x.choice(true, i, 0);
        }
        Check.enroll(x, 1);
        Check.enroll(x, 2);
        x.put(2, 2);
        x.put(3, 3);
        Check.laws(x, "n=0;k=1;s=20");
        x.choice(false, 0, 0);
        x.choice(true, 0, 0);
        CHECK.due("nobody", 0, x.judge(31, 0));
        CHECK.due("one by a lesson", 1, x.judge(127, 0));
        Check.laws(x, "n=0;k=1");
        CHECK.due("the OFF and the STRUCK one", 2, x.judge(31, 0));
        CHECK.due("nobody is left", 0, x.judge(31, 1));
        Check.laws(x, "n=0;k=2");
        CHECK.due("sort 1", 1, x.judge(31, 0));
        CHECK.due("it is the one ready", 1, x.judge(15, 1));
    }

    private static void best() {
        FilledRoll x = new FilledRoll();
        CHECK.due("no choices", 0, x.best(1000));
        CHECK.due("1001", BAD, x.best(1001));
        CHECK.due("-1", BAD, x.best(-1));
        x.person(0, 0, 6, 0, NONE);
        x.person(0, 1, 6, 0, NONE);
        x.person(1, 1, 8, 0, NONE);
        Check.laws(x, "n=0;s=8");
        x.choice(true, 2, 10);
        x.choice(false, 0, 3);
        x.choice(true, 0, 10);
        x.choice(true, 1, 10);
        CHECK.due("within 0", 0, x.best(0));
        CHECK.due("within 3: the ready ones", 2, x.best(3));
        CHECK.due("within 9", 2, x.best(9));
        CHECK.due("within 10: ON ahead of ready", 1, x.best(10));
        CHECK.due("within 13: ON, then ready", 3, x.best(13));
        CHECK.due("within 22", 3, x.best(22));
        CHECK.due("within 23", 7, x.best(23));
        CHECK.due("within 33", 15, x.best(33));
        CHECK.due("within 1000", 15, x.best(1000));
        CHECK.due("nothing changes", 0, x.count(2));
    }

    private static void bestOfLike() {
        FilledRoll x = new FilledRoll();
        x.person(0, 0, 8, 0, NONE);
        x.person(1, 0, 6, 0, NONE);
        x.person(1, 0, 4, 0, NONE);
        Check.laws(x, "n=0;s=8");
        x.choice(true, 0, 7);
        x.choice(true, 0, 5);
        x.choice(true, 0, 5);
        x.choice(false, 2, 0);
        CHECK.due("the least price, the fewest, the least bits", 2, x.best(100));
        x.drop();
        x.choice(false, 1, 3);
        x.choice(false, 1, 3);
        x.choice(false, 1, 3);
        x.choice(true, 0, 0);
        CHECK.due("two lessons make both ready", 11, x.best(100));
        CHECK.due("within 5: one lesson", 9, x.best(5));
        CHECK.due("within 2", 8, x.best(2));
        x.drop();
        x.choice(false, 1, 0);
        x.choice(false, 1, 0);
        x.choice(false, 1, 0);
        CHECK.due("the fewest", 3, x.best(0));
        x.drop();
        x.choice(false, 1, 1);
        x.choice(false, 1, 1);
        x.choice(true, 1, 1);
        x.choice(true, 0, 5);
        CHECK.due("a ride, and the most ready", 7, x.best(5));
        x.drop();
        x.choice(true, 0, 2);
        x.choice(false, 0, 1);
        x.choice(true, 0, 1);
        CHECK.due("cheaper by one", 4, x.best(5));
        FilledRoll y = new FilledRoll();
        y.person(0, 0, 6, 0, NONE);
        y.person(1, 0, 8, 0, NONE);
        Check.laws(y, "s=10");
        y.choice(false, 0, 1);
        y.choice(false, 0, 1);
        y.choice(false, 1, 2);
        CHECK.due("one for the price of two", 4, y.best(3));
        y.drop();
        y.choice(false, 0, 1);
        y.choice(false, 0, 1);
        y.choice(false, 1, 4);
        CHECK.due("two for less", 3, y.best(5));
    }
}
