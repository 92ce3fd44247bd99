/** Promises 15 to 20: form, read, formIs, answer, parted, asOf. */
final class FormsTest {
    private static final int NONE = -1, BAD = -2, NOT = -3, FULL = -4, NULL = -11;
    private static final Check CHECK = new Check("FormsTest");

    private FormsTest() {
    }

    public static void main(String[] args) {
        form();
        fullOfForms();
        answers();
        byText();
        schoolingThen();
        read();
        orders();
        late();
        parted();
        asOf();
        refusals();
        CHECK.end();
    }

    private static FilledRoll two() {
        FilledRoll x = new FilledRoll();
        x.person(0, 0, 8, 0, NONE);
        x.person(1, 1, 4, 0, NONE);
        return x;
    }

    private static void form() {
        FilledRoll x = two();
        CHECK.due("person 2", BAD, x.form(2, 0));
        CHECK.due("person -1", BAD, x.form(-1, 0));
        CHECK.due("sheet 4", BAD, x.form(0, 4));
        CHECK.due("sheet -1", BAD, x.form(0, -1));
        CHECK.due("no finding yet", 0, x.count(9));
        CHECK.due("lost", NULL, x.form(0, 0));
        CHECK.due("finding", 1, x.count(9));
        x.sheet(0, 1, 0);
        CHECK.due("first", 0, x.form(0, 0));
        CHECK.due("second of the same", 1, x.form(0, 0));
        x.read(0, 0, true, 0);
        CHECK.due("ON", NOT, x.form(0, 0));
        CHECK.due("NULL ahead of NOT", NULL, x.form(0, 1));
        x.put(0, 2);
        CHECK.due("STRUCK", 2, x.form(0, 0));
        x.put(0, 3);
        CHECK.due("GONE", NOT, x.form(0, 0));
        x.put(1, 4);
        CHECK.due("DEAD", NOT, x.form(1, 0));
        CHECK.due("three forms", 3, x.count(3));
    }

    private static void fullOfForms() {
        FilledRoll x = two();
        x.sheet(0, 0, 1);
        for (int i = 0; i < 60; i++) {
            CHECK.due("form", i, x.form(1, 0));
        }
        CHECK.due("61st", FULL, x.form(1, 0));
        x.read(0, 0, true, 0);
        CHECK.due("NOT ahead of FULL", NOT, x.form(1, 0));
        CHECK.due("forms of one", 60, x.about(1, 7));
    }

    private static void answers() {
        FilledRoll x = two();
        Check.laws(x, "q0=0;q1=99;q2=3;q19=5");
        Check.ints(x, 0, 0, 99, 100, -1, Integer.MIN_VALUE, Integer.MAX_VALUE, 7);
        x.form(0, 0);
        int[] want = {0, 99, NONE, NONE, NONE, NONE, 7, NONE};
        for (int question = 0; question < want.length; question++) {
            CHECK.due("answer " + question, want[question], x.answer(0, question));
        }
        CHECK.due("not there", NONE, x.answer(0, 19));
        CHECK.due("right ones", 2, x.formIs(0, 3));
        CHECK.due("empty ones", 17, x.formIs(0, 4));
        x.lay(0, 2, 0, 50);
        CHECK.due("the sheet is another thing", 0, x.answer(0, 0));
        x.lose(0);
        CHECK.due("lost behind it", 99, x.answer(0, 1));
        x.sheet(1, 0, 40);
        x.lay(1, 0, 0, 255);
        x.lay(1, 0, 19, 5);
        x.lay(1, 0, 20, 6);
        x.form(0, 1);
        CHECK.due("a byte of -1", NONE, x.answer(1, 0));
        CHECK.due("the 20th", 5, x.answer(1, 19));
        CHECK.due("empty ones of 20", 1, x.formIs(1, 4));
        CHECK.due("right ones", 1, x.formIs(1, 3));
        x.sheet(2, 2, 0);
        x.form(0, 2);
        CHECK.due("all empty", 20, x.formIs(2, 4));
        CHECK.due("empty is never right", 0, x.formIs(2, 3));
    }

    private static void byText() {
        FilledRoll x = two();
        Check.ints(x, 0, 1, 2, 3);
        x.form(0, 0);
        x.form(1, 0);
        CHECK.due("no right answers, n 1", 0, x.formIs(0, 5));
        CHECK.due("true: answers", 4, x.formIs(0, 10));
        Check.laws(x, "q0=1;q1=2;n=2");
        CHECK.due("the laws' text is as it is now", 1, x.formIs(0, 5));
        CHECK.due("right ones", 2, x.formIs(0, 3));
        Check.laws(x, "q0=1;q1=2;n=3");
        CHECK.due("too few", 0, x.formIs(0, 5));
        Check.laws(x, "q0=1@1;n=1");
        CHECK.due("not yet right", 0, x.formIs(0, 3));
        x.pass(1);
        CHECK.due("the day it was handed in", 0, x.formIs(0, 3));
        x.form(0, 0);
        CHECK.due("right a day later", 1, x.formIs(2, 3));
        Check.laws(x, "n=0;k=1");
        CHECK.due("sort 0 may", 1, x.formIs(0, 5));
        CHECK.due("sort 1 may not", 0, x.formIs(1, 5));
        CHECK.due("true: sort", 1, x.formIs(1, 10));
        Check.laws(x, "n=0;k=2");
        CHECK.due("sort 0 may not", 0, x.formIs(0, 5));
        CHECK.due("sort 1 may", 1, x.formIs(1, 5));
        Check.laws(x, "n=0;s=8");
        CHECK.due("at least s", 1, x.formIs(0, 5));
        CHECK.due("below s", 0, x.formIs(1, 5));
        CHECK.due("true: schooling", 2, x.formIs(1, 10));
        Check.laws(x, "n=4;k=1;s=5");
        CHECK.due("true: all three", 7, x.formIs(1, 10));
        Check.laws(x, "n=0;s=9@1");
        CHECK.due("s on the day it was handed in", 1, x.formIs(0, 5));
        CHECK.due("s a day later", 0, x.formIs(2, 5));
    }

    private static void schoolingThen() {
        FilledRoll x = two();
        x.sheet(0, 0, 0);
        Check.laws(x, "n=0;s=5");
        x.form(1, 0);
        x.teach(1);
        x.form(1, 0);
        CHECK.due("schooling then", 4, x.formIs(0, 2));
        CHECK.due("schooling behind the lesson", 6, x.formIs(1, 2));
        CHECK.due("not by text", 0, x.formIs(0, 5));
        CHECK.due("by text", 1, x.formIs(1, 5));
    }

    private static void read() {
        FilledRoll x = two();
        x.person(2, 1, 0, 0, NONE);
        x.sheet(0, 0, 0);
        x.form(0, 0);
        x.form(0, 0);
        x.form(1, 0);
        x.form(1, 0);
        x.form(2, 0);
        CHECK.due("form 5", BAD, x.read(5, 0, true, 0));
        CHECK.due("form -1", BAD, x.read(-1, 0, true, 0));
        CHECK.due("clerk 4", BAD, x.read(0, 4, true, 0));
        CHECK.due("clerk -1", BAD, x.read(0, -1, true, 0));
        CHECK.due("reason 5", BAD, x.read(0, 0, false, 5));
        CHECK.due("reason -1", BAD, x.read(0, 0, false, -1));
        CHECK.due("not read", 0, x.formIs(0, 8));
        CHECK.due("no day", NONE, x.formIs(0, 6));
        CHECK.due("no clerk", NONE, x.formIs(0, 7));
        CHECK.due("no reason", NONE, x.formIs(0, 9));
        x.pass(3);
        CHECK.due("passed", 1, x.read(0, 3, true, -77));
        CHECK.due("ON", 1, x.about(0, 5));
        CHECK.due("person", 0, x.formIs(0, 0));
        CHECK.due("handed in", 0, x.formIs(0, 1));
        CHECK.due("read on", 3, x.formIs(0, 6));
        CHECK.due("clerk", 3, x.formIs(0, 7));
        CHECK.due("passed", 1, x.formIs(0, 8));
        CHECK.due("no reason of a passed one", NONE, x.formIs(0, 9));
        CHECK.due("again", NOT, x.read(0, 0, false, 1));
        CHECK.due("BAD ahead of NOT", BAD, x.read(0, 0, false, 5));
        CHECK.due("refused", 1, x.read(1, 0, false, 4));
        CHECK.due("still ON", 1, x.about(0, 5));
        CHECK.due("refused", 2, x.formIs(1, 8));
        CHECK.due("reason", 4, x.formIs(1, 9));
        x.put(1, 4);
        CHECK.due("form of a DEAD one", 1, x.read(2, 0, true, 0));
        CHECK.due("still DEAD", 4, x.about(1, 5));
        x.read(4, 0, true, 0);
        x.put(2, 2);
        x.form(2, 0);
        CHECK.due("one that is STRUCK", 1, x.read(5, 0, true, 0));
        CHECK.due("ON again", 1, x.about(2, 5));
        CHECK.due("read ones", 5, x.count(4));
    }

    private static void orders() {
        FilledRoll x = two();
        x.sheet(0, 0, 0);
        Check.laws(x, "n=0;k=1");
        for (int i = 0; i < 4; i++) {
            x.form(0, 0);
        }
        x.form(1, 0);
        x.order(0, 2);
        CHECK.due("ahead of the order's day", 1, x.read(0, 0, false, 0));
        x.pass(2);
        CHECK.due("from that day on", NOT, x.read(1, 0, false, 0));
        CHECK.due("not read by it", 0, x.formIs(1, 8));
        CHECK.due("another clerk", 1, x.read(1, 1, false, 0));
        CHECK.due("one that is not to be passed", 1, x.read(4, 0, false, 0));
        CHECK.due("it may pass", 1, x.read(2, 0, true, 0));
        x.order(0, NONE);
        CHECK.due("none any more", 1, x.read(3, 0, false, 0));
    }

    private static void late() {
        FilledRoll x = two();
        x.sheet(0, 0, 0);
        Check.laws(x, "n=0;w=3;w=1@6");
        for (int i = 0; i < 4; i++) {
            x.form(1, 0);
        }
        x.pass(3);
        CHECK.due("not yet", 0, x.formIs(0, 11));
        x.read(0, 0, false, 3);
        CHECK.due("not true", 0, x.formIs(0, 10));
        CHECK.due("falsely", 1, x.parted(NONE, 2));
        x.pass(1);
        CHECK.due("read in time", 0, x.formIs(0, 11));
        CHECK.due("not read", 1, x.formIs(1, 11));
        x.read(1, 0, false, 3);
        CHECK.due("late when read", 1, x.formIs(1, 11));
        CHECK.due("true", 8, x.formIs(1, 10));
        CHECK.due("falsely: as before", 1, x.parted(NONE, 2));
        x.pass(1);
        x.form(1, 0);
        x.pass(1);
        CHECK.due("w of the day told", 0, x.formIs(4, 11));
        x.pass(1);
        CHECK.due("w is 1 now", 1, x.formIs(4, 11));
        CHECK.due("by the w of the day it was read", 0, x.formIs(0, 11));
        x.asOf(3);
        CHECK.due("as of day 3", 0, x.formIs(1, 11));
        CHECK.due("as of day 3, bits", 0, x.formIs(1, 10));
        CHECK.due("not read then", 0, x.formIs(1, 8));
        x.asOf(4);
        CHECK.due("as of day 4", 1, x.formIs(2, 11));
    }

    private static void parted() {
        FilledRoll x = two();
        x.sheet(0, 0, 0);
        Check.laws(x, "n=0;k=1;s=5");
        int[] of = {0, 0, 0, 0, 1, 1, 1, 1, 1, 1};
        for (int person : of) {
            x.form(person, 0);
        }
        x.pass(100);
        for (int reason = 0; reason < 4; reason++) {
            x.read(reason, 0, false, reason);
        }
        for (int reason = 0; reason < 5; reason++) {
            x.read(4 + reason, 1, false, reason);
        }
        CHECK.due("none passed", 0, x.parted(NONE, 0));
        CHECK.due("refused though by text", 4, x.parted(NONE, 1));
        CHECK.due("of 0", 4, x.parted(0, 1));
        CHECK.due("of 1", 0, x.parted(1, 1));
        CHECK.due("falsely of 0: all but late", 3, x.parted(0, 2));
        CHECK.due("falsely of 1: answers, other", 2, x.parted(1, 2));
        CHECK.due("falsely", 5, x.parted(NONE, 2));
        x.read(9, 0, true, 0);
        CHECK.due("passed though not by text", 1, x.parted(NONE, 0));
        CHECK.due("of 1", 1, x.parted(1, 0));
        CHECK.due("of 0", 0, x.parted(0, 0));
        x.asOf(99);
        CHECK.due("not known yet", 0, x.parted(NONE, 0) + x.parted(NONE, 1) + x.parted(NONE, 2));
    }

    private static void asOf() {
        FilledRoll x = two();
        x.sheet(0, 0, 0);
        x.form(0, 0);
        x.pass(2);
        x.form(1, 0);
        x.read(0, 1, true, 0);
        CHECK.due("3: behind the day", BAD, x.asOf(3));
        CHECK.due("-2", BAD, x.asOf(-2));
        CHECK.due("was NONE", NONE, x.asOf(1));
        CHECK.due("known", 1, x.count(3));
        CHECK.due("read", 0, x.count(4));
        CHECK.due("not known", NOT, x.formIs(1, 0));
        CHECK.due("not known", NOT, x.answer(1, 0));
        CHECK.due("no such thing", BAD, x.formIs(2, 0));
        CHECK.due("BAD ahead of NOT", BAD, x.formIs(1, 12));
        CHECK.due("BAD ahead of NOT", BAD, x.answer(1, 20));
        CHECK.due("not read", 0, x.formIs(0, 8));
        CHECK.due("no day", NONE, x.formIs(0, 6));
        CHECK.due("no clerk", NONE, x.formIs(0, 7));
        CHECK.due("no state changes", 1, x.about(0, 5));
        CHECK.due("it was read all the same", NOT, x.read(0, 0, true, 0));
        CHECK.due("one not known may be read", 1, x.read(1, 0, false, 2));
        x.sheet(0, 0, 0);
        CHECK.due("a form more", 2, x.form(1, 0));
        CHECK.due("not known itself", NOT, x.formIs(2, 0));
        CHECK.due("was 1", 1, x.asOf(2));
        CHECK.due("read then", 2, x.count(4));
        CHECK.due("all known", 3, x.count(3));
        CHECK.due("was 2", 2, x.asOf(0));
        CHECK.due("was 0", 0, x.asOf(NONE));
        x.pass(1);
        CHECK.due("goes on with the day", 3, x.count(3));
    }

    private static void refusals() {
        FilledRoll x = two();
        x.sheet(0, 0, 0);
        x.form(0, 0);
        CHECK.due("formIs 12", BAD, x.formIs(0, 12));
        CHECK.due("formIs -1", BAD, x.formIs(0, -1));
        CHECK.due("formIs of 1", BAD, x.formIs(1, 0));
        CHECK.due("formIs of -1", BAD, x.formIs(-1, 0));
        CHECK.due("answer 20", BAD, x.answer(0, 20));
        CHECK.due("answer -1", BAD, x.answer(0, -1));
        CHECK.due("answer of 1", BAD, x.answer(1, 0));
        CHECK.due("answer of -1", BAD, x.answer(-1, 0));
        CHECK.due("parted 3", BAD, x.parted(NONE, 3));
        CHECK.due("parted -1", BAD, x.parted(NONE, -1));
        CHECK.due("parted of 2", BAD, x.parted(2, 0));
        CHECK.due("parted of -2", BAD, x.parted(-2, 0));
    }
}
