/** Promises 1 to 8: a new object, pass, person, about, put, move, harsh, roll. */
final class CountyTest {
    private static final int NONE = -1, BAD = -2, NOT = -3, FULL = -4;
    private static final int LEAST = Integer.MIN_VALUE, MOST = Integer.MAX_VALUE;
    private static final Check CHECK = new Check("CountyTest");

    private CountyTest() {
    }

    public static void main(String[] args) {
        newObject();
        pass();
        person();
        about();
        put();
        move();
        harsh();
        roll();
        CHECK.end();
    }

    private static void newObject() {
        FilledRoll x = new FilledRoll();
        for (int what = 0; what <= 9; what++) {
            CHECK.due("new: count " + what, 0, x.count(what));
        }
        for (int s = 0; s < 4; s++) {
            CHECK.due("new: sheet lost", -11, x.lose(s));
        }
        CHECK.due("new: about(0, 0)", BAD, x.about(0, 0));
        CHECK.due("new: asOf is NONE", NONE, x.asOf(0));
    }

    private static void pass() {
        FilledRoll x = new FilledRoll();
        CHECK.due("pass(0)", BAD, x.pass(0));
        CHECK.due("pass(-1)", BAD, x.pass(-1));
        CHECK.due("pass(101)", BAD, x.pass(101));
        CHECK.due("pass least", BAD, x.pass(LEAST));
        CHECK.due("pass most", BAD, x.pass(MOST));
        CHECK.due("still day 0", 0, x.count(0));
        CHECK.due("pass(1)", 1, x.pass(1));
        CHECK.due("pass(100)", 101, x.pass(100));
        CHECK.due("pass(100)", 201, x.pass(100));
        CHECK.due("pass(100)", 301, x.pass(100));
        CHECK.due("pass(99): above 399", BAD, x.pass(99));
        CHECK.due("pass(98)", 399, x.pass(98));
        CHECK.due("pass(1): above 399", BAD, x.pass(1));
        CHECK.due("day 399", 399, x.count(0));
    }

    private static void person() {
        FilledRoll x = new FilledRoll();
        CHECK.due("no owner yet", BAD, x.person(0, 0, 0, 0, 0));
        CHECK.due("first", 0, x.person(5, 1, 20, 9, NONE));
        CHECK.due("beat 6", BAD, x.person(6, 0, 0, 0, NONE));
        CHECK.due("beat -1", BAD, x.person(-1, 0, 0, 0, NONE));
        CHECK.due("sort 2", BAD, x.person(0, 2, 0, 0, NONE));
        CHECK.due("sort -1", BAD, x.person(0, -1, 0, 0, NONE));
        CHECK.due("schooling 21", BAD, x.person(0, 0, 21, 0, NONE));
        CHECK.due("schooling -1", BAD, x.person(0, 0, -1, 0, NONE));
        CHECK.due("fear 10", BAD, x.person(0, 0, 0, 10, NONE));
        CHECK.due("fear -1", BAD, x.person(0, 0, 0, -1, NONE));
        CHECK.due("owner -2", BAD, x.person(0, 0, 0, 0, -2));
        CHECK.due("owner itself", BAD, x.person(0, 0, 0, 0, 1));
        CHECK.due("owner most", BAD, x.person(0, 0, 0, 0, MOST));
        CHECK.due("none came", 1, x.count(1));
        CHECK.due("owned by 0", 1, x.person(0, 0, 0, 0, 0));
        for (int i = 2; i < 48; i++) {
            CHECK.due("person " + i, i, x.person(i % 6, i % 2, i % 21, i % 10, i - 1));
        }
        CHECK.due("49th", FULL, x.person(0, 0, 0, 0, NONE));
        CHECK.due("49th, bad", BAD, x.person(6, 0, 0, 0, NONE));
        CHECK.due("48 persons", 48, x.count(1));
    }

    private static void about() {
        FilledRoll x = new FilledRoll();
        x.person(4, 0, 1, 2, NONE);
        x.person(3, 1, 17, 8, 0);
        int[] want = {3, 1, 17, 8, 0, 0, 0, 0};
        for (int what = 0; what < 8; what++) {
            CHECK.due("about 1, " + what, want[what], x.about(1, what));
        }
        CHECK.due("owner none", NONE, x.about(0, 4));
        CHECK.due("what 8", BAD, x.about(0, 8));
        CHECK.due("what -1", BAD, x.about(0, -1));
        CHECK.due("person 2", BAD, x.about(2, 0));
        CHECK.due("person -1", BAD, x.about(-1, 0));
        CHECK.due("person most", BAD, x.about(MOST, 0));
        x.sheet(0, 0, 0);
        x.form(1, 0);
        x.pass(1);
        x.form(1, 0);
        x.form(0, 0);
        CHECK.due("forms of 1", 2, x.about(1, 7));
        CHECK.due("forms of 0", 1, x.about(0, 7));
        x.asOf(0);
        CHECK.due("forms of 1 known then", 1, x.about(1, 7));
        CHECK.due("forms of 0 known then", 0, x.about(0, 7));
    }

    private static void put() {
        FilledRoll x = new FilledRoll();
        for (int i = 0; i < 4; i++) {
            x.person(i, 0, 0, 0, NONE);
        }
        CHECK.due("state 1", BAD, x.put(0, 1));
        CHECK.due("state 0", BAD, x.put(0, 0));
        CHECK.due("state 5", BAD, x.put(0, 5));
        CHECK.due("person 4", BAD, x.put(4, 3));
        CHECK.due("person -1", BAD, x.put(-1, 3));
        CHECK.due("strike one OFF", NOT, x.put(0, 2));
        Check.enroll(x, 0);
        CHECK.due("ON", 1, x.about(0, 5));
        CHECK.due("strike one ON", 1, x.put(0, 2));
        CHECK.due("STRUCK", 2, x.about(0, 5));
        CHECK.due("lives where it did", 0, x.about(0, 0));
        CHECK.due("strike one STRUCK", NOT, x.put(0, 2));
        CHECK.due("GONE from STRUCK", 2, x.put(0, 3));
        CHECK.due("no beat", NONE, x.about(0, 0));
        CHECK.due("DEAD from GONE", NOT, x.put(0, 4));
        CHECK.due("strike one GONE", NOT, x.put(0, 2));
        CHECK.due("DEAD from OFF", 0, x.put(1, 4));
        CHECK.due("state DEAD", 4, x.about(1, 5));
        CHECK.due("DEAD: no beat", NONE, x.about(1, 0));
        CHECK.due("GONE from DEAD", NOT, x.put(1, 3));
        Check.enroll(x, 2);
        CHECK.due("GONE from ON", 1, x.put(2, 3));
        CHECK.due("bad ahead of NOT", BAD, x.put(2, 5));
    }

    private static void move() {
        FilledRoll x = new FilledRoll();
        x.person(0, 0, 0, 0, NONE);
        x.person(1, 0, 0, 0, 0);
        CHECK.due("same", BAD, x.move(0, 0));
        CHECK.due("beat 6", BAD, x.move(0, 6));
        CHECK.due("beat NONE", BAD, x.move(0, NONE));
        CHECK.due("person 2", BAD, x.move(2, 0));
        CHECK.due("person -1", BAD, x.move(-1, 0));
        CHECK.due("to 5", 0, x.move(0, 5));
        CHECK.due("at 5", 5, x.about(0, 0));
        CHECK.due("back", 5, x.move(0, 0));
        x.put(1, 3);
        CHECK.due("GONE", NOT, x.move(1, 2));
        CHECK.due("GONE to no beat", BAD, x.move(1, NONE));
        CHECK.due("GONE, bad beat", BAD, x.move(1, 6));
        x.put(0, 4);
        CHECK.due("DEAD", NOT, x.move(0, 2));
        CHECK.due("no beat", NONE, x.about(0, 0));
    }

    private static void harsh() {
        FilledRoll x = new FilledRoll();
        x.person(0, 0, 0, 0, NONE);
        CHECK.due("was 0", 0, x.harsh(0, 9));
        CHECK.due("was 9", 9, x.harsh(0, 3));
        CHECK.due("10", BAD, x.harsh(0, 10));
        CHECK.due("-1", BAD, x.harsh(0, -1));
        CHECK.due("person 1", BAD, x.harsh(1, 1));
        CHECK.due("person -1", BAD, x.harsh(-1, 1));
        CHECK.due("about", 3, x.about(0, 6));
        CHECK.due("to 0", 3, x.harsh(0, 0));
        CHECK.due("was 0", 0, x.harsh(0, 1));
    }

    private static void roll() {
        FilledRoll x = new FilledRoll();
        int[] beats = {0, 0, 0, 1, 1, 5};
        int[] sorts = {0, 1, 1, 1, 0, 1};
        for (int i = 0; i < 6; i++) {
            x.person(beats[i], sorts[i], 0, 0, NONE);
        }
        CHECK.due("all OFF", 6, x.roll(NONE, NONE, 0));
        CHECK.due("OFF in 0", 3, x.roll(0, NONE, 0));
        CHECK.due("OFF of 1", 4, x.roll(NONE, 1, 0));
        CHECK.due("OFF in 0 of 1", 2, x.roll(0, 1, 0));
        Check.enroll(x, 1);
        Check.enroll(x, 3);
        x.put(3, 2);
        CHECK.due("ON in 0 of 1", 1, x.roll(0, 1, 1));
        CHECK.due("OFF in 0 of 1", 1, x.roll(0, 1, 0));
        CHECK.due("STRUCK", 1, x.roll(NONE, NONE, 2));
        CHECK.due("STRUCK of 0", 0, x.roll(NONE, 0, 2));
        x.put(5, 3);
        CHECK.due("OFF in 5", 0, x.roll(5, NONE, 0));
        CHECK.due("OFF", 3, x.roll(NONE, NONE, 0));
        CHECK.due("GONE", BAD, x.roll(NONE, NONE, 3));
        CHECK.due("state -1", BAD, x.roll(NONE, NONE, -1));
        CHECK.due("beat 6", BAD, x.roll(6, NONE, 0));
        CHECK.due("beat -2", BAD, x.roll(-2, NONE, 0));
        CHECK.due("sort 2", BAD, x.roll(NONE, 2, 0));
        CHECK.due("sort -2", BAD, x.roll(NONE, -2, 0));
    }
}
