/** Promises 9 to 14: type, wipe, fault, right, law, why. */
final class LawTest {
    private static final int NONE = -1, BAD = -2, FULL = -4;
    private static final Check CHECK = new Check("LawTest");

    private LawTest() {
    }

    public static void main(String[] args) {
        typeAndWipe();
        wellFormed();
        faults();
        fullText();
        without();
        inForce();
        refusals();
        CHECK.end();
    }

    private static void typeAndWipe() {
        FilledRoll x = new FilledRoll();
        CHECK.due("type -1", BAD, x.type(-1));
        CHECK.due("type 256", BAD, x.type(256));
        CHECK.due("wipe empty", 0, x.wipe());
        CHECK.due("type 0", 1, x.type(0));
        CHECK.due("type 255", 2, x.type(255));
        for (int i = 3; i <= 200; i++) {
            CHECK.due("type", i, x.type('7'));
        }
        CHECK.due("201st", FULL, x.type('7'));
        CHECK.due("201st, bad", BAD, x.type(256));
        CHECK.due("200 bytes", 200, x.count(8));
        CHECK.due("wipe", 200, x.wipe());
        CHECK.due("no bytes", 0, x.count(8));
        CHECK.due("type again", 1, x.type('n'));
    }

    private static void fault(String text, int want) {
        FilledRoll x = new FilledRoll();
        Check.say(x, text);
        CHECK.due("fault of " + text, want, x.fault());
    }

    private static void wellFormed() {
        String[] texts = {"q0=0", "q19=99", "q07=05", "n=0", "n=99", "n=00", "k=1", "k=2", "k=3", "s=20", "s=99",
            "w=0", "w=99", "n=1@0", "n=1@399", "k=3@007", "q1=1@12", "n=1;n=1;n=1", "q3=4@5;k=1@300;s=6;w=1@2;n=3"};
        for (String text : texts) {
            fault(text, NONE);
        }
    }

    private static void faults() {
        fault("", 0);
        fault("x", 0);
        fault(";", 0);
        fault("Q1=1", 0);
        fault(" n=1", 0);
        fault("n", 1);
        fault("n1", 1);
        fault("q", 1);
        fault("q=1", 1);
        fault("q1", 2);
        fault("q12", 3);
        fault("q123=1", 3);
        fault("q20=1", 1);
        fault("q200", 1);
        fault("q99", 1);
        fault("q1=", 3);
        fault("q1=x", 3);
        fault("q1=123", 5);
        fault("n=", 2);
        fault("n=-1", 2);
        fault("n=1;", 4);
        fault("n=1;;n=1", 4);
        fault("n=1,n=2", 3);
        fault("n=1 ", 3);
        fault("k=0", 2);
        fault("k=4", 2);
        fault("k=9@", 2);
        fault("k=12", 3);
        fault("k=42", 2);
        fault("k=", 2);
        fault("s=123", 4);
        fault("w=1@", 4);
        fault("w=1@;", 4);
        fault("w=1@400", 4);
        fault("w=1@4000", 4);
        fault("w=1@3990", 7);
        fault("w=1@999", 4);
        fault("w=1@1@2", 5);
        fault("n=1@5;", 6);
        fault("n=1;q1=2;k=0;x", 11);
        fault("n=1\u00ff", 3);
        fault("\u00f1=1", 0);
        fault("n=1/", 3);
        fault("n=/", 2);
        fault("n=:", 2);
        fault("q1:2", 2);
    }

    private static void fullText() {
        FilledRoll x = new FilledRoll();
        for (int i = 0; i < 50; i++) {
            Check.say(x, "n=2;");
        }
        CHECK.due("50 parts and a ; behind", 200, x.fault());
        CHECK.due("all is as without", 1, x.law(0, 0));
        x = new FilledRoll();
        for (int i = 0; i < 49; i++) {
            Check.say(x, "n=2;");
        }
        Check.say(x, "n=3@");
        CHECK.due("200 bytes, open", 200, x.fault());
        x = new FilledRoll();
        for (int i = 0; i < 49; i++) {
            Check.say(x, "n=2;");
        }
        Check.say(x, "q1=4");
        CHECK.due("50 parts", NONE, x.fault());
        CHECK.due("the last", 4, x.right(1, 0));
        CHECK.due("is part 49", 49, x.why(1, 0));
        CHECK.due("n of part 48", 48, x.why(20, 0));
    }

    private static void defaults(FilledRoll x, String when) {
        CHECK.due(when + ": n", 1, x.law(0, 0));
        CHECK.due(when + ": k", 3, x.law(1, 0));
        CHECK.due(when + ": s", 0, x.law(2, 0));
        CHECK.due(when + ": w", 99, x.law(3, 0));
        for (int question = 0; question < 20; question++) {
            CHECK.due(when + ": right", NONE, x.right(question, 399));
        }
        for (int what = 0; what < 24; what++) {
            CHECK.due(when + ": why", NONE, x.why(what, 399));
        }
    }

    private static void without() {
        FilledRoll x = new FilledRoll();
        defaults(x, "new");
        Check.laws(x, "q0=1;n=5;k=1;s=3;w=2;");
        CHECK.due("fault", 21, x.fault());
        defaults(x, "with a fault");
        Check.say(x, "n=4");
        CHECK.due("mended", NONE, x.fault());
        CHECK.due("n", 4, x.law(0, 0));
        CHECK.due("k", 1, x.law(1, 0));
        CHECK.due("s", 3, x.law(2, 0));
        CHECK.due("w", 2, x.law(3, 0));
        CHECK.due("q0", 1, x.right(0, 0));
        CHECK.due("why n", 5, x.why(20, 0));
        CHECK.due("why k", 2, x.why(21, 0));
        CHECK.due("why s", 3, x.why(22, 0));
        CHECK.due("why w", 4, x.why(23, 0));
        x.wipe();
        defaults(x, "wiped");
        CHECK.due("fault", 0, x.fault());
    }

    private static void inForce() {
        FilledRoll x = new FilledRoll();
        Check.laws(x, "q5=1@10;q5=2@3;q5=3@20;q6=0@399;s=7@5;s=2");
        CHECK.due("day 2", NONE, x.right(5, 2));
        CHECK.due("why day 2", NONE, x.why(5, 2));
        CHECK.due("day 3", 2, x.right(5, 3));
        CHECK.due("day 19: the last in force, not the latest", 2, x.right(5, 19));
        CHECK.due("why day 19", 1, x.why(5, 19));
        CHECK.due("day 20", 3, x.right(5, 20));
        CHECK.due("why day 20", 2, x.why(5, 20));
        CHECK.due("day 398", NONE, x.right(6, 398));
        CHECK.due("day 399", 0, x.right(6, 399));
        CHECK.due("s: the last", 2, x.law(2, 6));
        CHECK.due("other questions", NONE, x.right(7, 399));
    }

    private static void refusals() {
        FilledRoll x = new FilledRoll();
        CHECK.due("right 20", BAD, x.right(20, 0));
        CHECK.due("right -1", BAD, x.right(-1, 0));
        CHECK.due("right day 400", BAD, x.right(0, 400));
        CHECK.due("right day -1", BAD, x.right(0, -1));
        CHECK.due("law 4", BAD, x.law(4, 0));
        CHECK.due("law -1", BAD, x.law(-1, 0));
        CHECK.due("law day 400", BAD, x.law(0, 400));
        CHECK.due("law day NONE", BAD, x.law(0, NONE));
        CHECK.due("why 24", BAD, x.why(24, 0));
        CHECK.due("why -1", BAD, x.why(-1, 0));
        CHECK.due("why day 400", BAD, x.why(0, 400));
        CHECK.due("why day -1", BAD, x.why(0, -1));
    }
}
