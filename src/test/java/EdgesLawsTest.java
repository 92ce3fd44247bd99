/** The edges of Terms 2 and of promises 9 to 14, sentence by sentence. */
final class EdgesLawsTest {
    private static final int NONE = -1, BAD = -2, FULL = -4;
    private static final Check CHECK = new Check("EdgesLawsTest");
    private static final Scene NEW = new Scene(CHECK, "new");
    private static final Scene TOWN = Scene.town(CHECK);

    private EdgesLawsTest() {
    }

    public static void main(String[] args) {
        upTo200Bytes();
        aFullTextOfParts();
        partsWithASignBetween();
        questionsAreTwoFiguresAtMost();
        answersAreTwoFiguresAtMost();
        needsAreTwoFiguresAtMost();
        sortsAreOneFigure();
        schoolingIsTwoFiguresAtMost();
        waitIsTwoFiguresAtMost();
        daysAreThreeFiguresAtMost();
        figuresAndTheirNeighbours();
        fromWhichOnItIsSo();
        theLastOneInForceIsSo();
        withoutOne();
        theFaultOfAnEmptyText();
        withAFaultAllIsAsWithoutAnyPart();
        whyOfWhatIsSo();
        promise9();
        promise10();
        promise11();
        promise12();
        promise13();
        promise14();
        CHECK.end();
    }

    private static Scene text(String text) {
        return NEW.then("\"" + text + "\"").types(text);
    }

    /** A text as it is typed has its fault at a place; NONE: it has none. */
    private static void fault(String text, int want) {
        text(text).answers("the fault", want, x -> x.fault());
    }

    /** A part that says a number of a kind is taken in, and that number is so. */
    private static void says(String text, int kind, int want) {
        Scene s = text(text);
        s.answers("the fault", NONE, x -> x.fault());
        s.answers("its part", 0, x -> x.why(kind, 399));
        s.answers("what is so", want, x -> kind < 20 ? x.right(kind, 399) : x.law(kind - 20, 399));
    }

    /** "a text of up to 200 bytes" */
    private static void upTo200Bytes() {
        Scene most = NEW.then("199 bytes").times(199, i -> x -> x.type(i));
        most.answers("the last byte", 200, x -> x.type(255));
        Scene full = NEW.then("200 bytes").times(200, i -> x -> x.type(i));
        full.answers("bytes", 200, x -> x.count(8));
        full.refuses("one more", FULL, x -> x.type('n'));
        full.refuses("BAD ahead of FULL: above", BAD, x -> x.type(256));
        full.refuses("BAD ahead of FULL: below", BAD, x -> x.type(-1));
        Scene town = TOWN.then("200 bytes").does(x -> x.wipe()).times(200, i -> x -> x.type("n=7;".charAt(i % 4)));
        town.refuses("one more", FULL, x -> x.type('n'));
        town.refuses("BAD ahead of FULL", BAD, x -> x.type(256));
        full.answers("wiped", 200, x -> x.wipe());
        full.then("wiped").does(x -> x.wipe()).answers("room again", 1, x -> x.type('n'));
    }

    /** The most parts that there can be: 50 of three bytes with ; between them. */
    private static void aFullTextOfParts() {
        Scene s = NEW.then("49 parts").times(196, i -> x -> x.type("n=2;".charAt(i % 4)));
        s.answers("a ; is open", 196, x -> x.fault());
        s.types("n=3");
        s.answers("199 bytes, no fault", NONE, x -> x.fault());
        s.answers("part 49 is so", 49, x -> x.why(20, 0));
        s.answers("it says", 3, x -> x.law(0, 0));
        s.then("a figure more").types("7").answers("200 bytes", 37, x -> x.law(0, 0));
        Scene open = s.then("a ; more").types(";");
        open.answers("200 bytes, a fault behind them", 200, x -> x.fault());
        open.answers("no part", 1, x -> x.law(0, 0));
        open.refuses("no room to mend it", FULL, x -> x.type('n'));
        s.then("an @ more").types("@").answers("200 bytes, a fault behind them", 200, x -> x.fault());
    }

    /** "parts with ; between them" */
    private static void partsWithASignBetween() {
        fault("n=1", NONE);
        fault("n=1;", 4);
        fault("n=1;n=1", NONE);
        fault("n=1;;n=1", 4);
        fault(";n=1", 0);
        fault("n=1n=1", 3);
        fault("n=1:n=1", 3);
        fault("n=1;n=1;", 8);
        fault("n=1;x", 4);
        fault("n", 1);
        fault("n;", 1);
        fault("n=", 2);
        fault("n=;", 2);
    }

    /** "q and a QUESTION (one or two figures, 0 to 19)" */
    private static void questionsAreTwoFiguresAtMost() {
        says("q0=1", 0, 1);
        says("q9=1", 9, 1);
        says("q00=1", 0, 1);
        says("q09=1", 9, 1);
        says("q10=1", 10, 1);
        says("q19=1", 19, 1);
        fault("q20=1", 1);
        fault("q20", 1);
        fault("q99=1", 1);
        fault("q=1", 1);
        fault("q", 1);
        fault("q1", 2);
        fault("q19", 3);
        fault("q019=1", 3);
        fault("q000=1", 3);
        fault("q190=1", 3);
        fault("q200=1", 1);
        fault("n=1;q20=1", 5);
    }

    /** "= and an answer (one or two figures)" */
    private static void answersAreTwoFiguresAtMost() {
        says("q3=0", 3, 0);
        says("q3=9", 3, 9);
        says("q3=00", 3, 0);
        says("q3=10", 3, 10);
        says("q3=99", 3, 99);
        fault("q3=", 3);
        fault("q3=100", 5);
        fault("q3=000", 5);
        fault("q3=-1", 3);
        fault("q3:1", 2);
        fault("q19=999", 6);
    }

    /** "n = and how many right ones are needed (one or two figures)" */
    private static void needsAreTwoFiguresAtMost() {
        says("n=0", 20, 0);
        says("n=9", 20, 9);
        says("n=09", 20, 9);
        says("n=10", 20, 10);
        says("n=99", 20, 99);
        fault("n=100", 4);
        fault("n=000", 4);
        fault("n1", 1);
        fault("N=1", 0);
    }

    /** "k = and SORTS (one figure, 1 to 3: bits)" */
    private static void sortsAreOneFigure() {
        says("k=1", 21, 1);
        says("k=2", 21, 2);
        says("k=3", 21, 3);
        fault("k=0", 2);
        fault("k=4", 2);
        fault("k=9", 2);
        fault("k=", 2);
        fault("k=10", 3);
        fault("k=03", 2);
        fault("k=33", 3);
        fault("k=40", 2);
        fault("n=1;k=0", 6);
    }

    /** "s = and the least SCHOOLING (one or two figures)" */
    private static void schoolingIsTwoFiguresAtMost() {
        says("s=0", 22, 0);
        says("s=20", 22, 20);
        says("s=21", 22, 21);
        says("s=99", 22, 99);
        fault("s=100", 4);
        fault("s=", 2);
        fault("s", 1);
    }

    /** "w = and how many DAYS an answer waits at most (one or two figures)" */
    private static void waitIsTwoFiguresAtMost() {
        says("w=0", 23, 0);
        says("w=00", 23, 0);
        says("w=99", 23, 99);
        fault("w=100", 4);
        fault("w=", 2);
        fault("w", 1);
    }

    /** "each perhaps with @ and a DAY behind it (one to three figures, 0 to 399)" */
    private static void daysAreThreeFiguresAtMost() {
        for (String part : new String[] {"q0=1", "n=1", "k=1", "s=1", "w=1"}) {
            int at = part.length();
            fault(part + "@0", NONE);
            fault(part + "@9", NONE);
            fault(part + "@00", NONE);
            fault(part + "@99", NONE);
            fault(part + "@000", NONE);
            fault(part + "@399", NONE);
            fault(part + "@400", at + 1);
            fault(part + "@999", at + 1);
            fault(part + "@0000", at + 4);
            fault(part + "@3999", at + 4);
            fault(part + "@4000", at + 1);
            fault(part + "@", at + 1);
            fault(part + "@;", at + 1);
            fault(part + "@-1", at + 1);
            fault(part + "@1@1", at + 2);
            fault(part + "@@1", at + 1);
        }
    }

    /** The bytes beside the figures and beside the letters are none. */
    private static void figuresAndTheirNeighbours() {
        fault("n=/", 2);
        fault("n=:", 2);
        fault("n=1/", 3);
        fault("n=1:", 3);
        fault("n=1@/", 4);
        fault("n=1@:", 4);
        fault("q/=1", 1);
        fault("q:=1", 1);
        for (char sign : new char[] {0, 'j', 'l', 'm', 'o', 'p', 'r', 't', 'v', 'x', ' ', 255, 'n' + 128}) {
            fault(sign + "=1", 0);
        }
        fault("n<1", 1);
        fault("n>1", 1);
        fault("n=1?1", 3);
        fault("n=1A1", 3);
        fault("n=1<", 3);
    }

    /** "from which on it is so (otherwise from 0)" */
    private static void fromWhichOnItIsSo() {
        Scene s = text("q5=7@10;n=4@399;s=3;w=0@0");
        s.answers("the day before", NONE, x -> x.right(5, 9));
        s.answers("that day", 7, x -> x.right(5, 10));
        s.answers("the last day", 7, x -> x.right(5, 399));
        s.answers("before the last day", 1, x -> x.law(0, 398));
        s.answers("the last day", 4, x -> x.law(0, 399));
        s.answers("otherwise from 0", 3, x -> x.law(2, 0));
        s.answers("from 0, told", 0, x -> x.law(3, 0));
    }

    /** "Of parts of one kind (and QUESTION) that are in force the last one is so." */
    private static void theLastOneInForceIsSo() {
        Scene s = text("q1=1@20;q1=2;q1=3@5;q1=4@5;q2=9");
        int[] days = {0, 4, 5, 19, 20, 399};
        int[] parts = {1, 1, 3, 3, 3, 3};
        int[] answers = {2, 2, 4, 4, 4, 4};
        for (int i = 0; i < days.length; i++) {
            int day = days[i];
            s.answers("part on day " + day, parts[i], x -> x.why(1, day));
            s.answers("answer on day " + day, answers[i], x -> x.right(1, day));
        }
        s.answers("another QUESTION", 9, x -> x.right(2, 0));
        Scene kinds = text("n=1;k=1;s=1;w=1;n=2@1;k=2@1;s=2@1;w=2@1");
        for (int i = 0; i < 4; i++) {
            int what = i;
            kinds.answers("the first", what, x -> x.why(20 + what, 0));
            kinds.answers("it says", 1, x -> x.law(what, 0));
            kinds.answers("the last", 4 + what, x -> x.why(20 + what, 1));
            kinds.answers("it says", 2, x -> x.law(what, 1));
        }
    }

    /** "Without one: no answer of that QUESTION is right; n 1; k 3; s 0; w 99." */
    private static void withoutOne() {
        withoutAny(NEW);
        Scene later = text("q0=1@1;q19=1@1;n=5@1;k=1@1;s=7@1;w=2@1");
        int[] otherwise = {1, 3, 0, 99};
        for (int i = 0; i < 4; i++) {
            int what = i;
            later.answers("not yet", otherwise[what], x -> x.law(what, 0));
            later.answers("no part yet", NONE, x -> x.why(20 + what, 0));
        }
        later.answers("no answer yet", NONE, x -> x.right(0, 0));
        later.answers("no answer yet", NONE, x -> x.right(19, 0));
        later.answers("no QUESTION of another part", NONE, x -> x.right(1, 399));
    }

    private static void withoutAny(Scene s) {
        int[] otherwise = {1, 3, 0, 99};
        for (int day = 0; day <= 399; day += 399) {
            int on = day;
            for (int i = 0; i < 4; i++) {
                int what = i;
                s.answers("law " + what, otherwise[what], x -> x.law(what, on));
                s.answers("why " + (20 + what), NONE, x -> x.why(20 + what, on));
            }
            for (int i = 0; i < 20; i++) {
                int question = i;
                s.answers("right " + question, NONE, x -> x.right(question, on));
                s.answers("why " + question, NONE, x -> x.why(question, on));
            }
        }
    }

    /** "The FAULT is the place of the first byte with which it cannot go on (of an empty text 0)" */
    private static void theFaultOfAnEmptyText() {
        NEW.answers("a new one", 0, x -> x.fault());
        text("n=1").then("wiped").does(x -> x.wipe()).answers("an emptied one", 0, x -> x.fault());
        fault("x", 0);
        fault("n=1x", 3);
    }

    /** "With a FAULT all is as without any part." */
    private static void withAFaultAllIsAsWithoutAnyPart() {
        withoutAny(text("q0=1;q19=1;n=5;k=1;s=7;w=2;"));
        withoutAny(text("q0=1;q19=1;n=5;k=1;s=7;w=2@400"));
        withoutAny(text("x;n=5"));
        Scene mended = text("n=5;").then("mended").types("k=1");
        mended.answers("no fault", NONE, x -> x.fault());
        mended.answers("the first part again", 5, x -> x.law(0, 0));
        Scene broken = text("n=5").then("broken").types("0;");
        broken.answers("none any more", 1, x -> x.law(0, 0));
    }

    /** "WHY of what is so: the number of its part (from 0); NONE." */
    private static void whyOfWhatIsSo() {
        Scene s = text("w=1;s=1;k=1;n=1;q19=1;q0=1");
        int[] kinds = {23, 22, 21, 20, 19, 0};
        for (int part = 0; part < kinds.length; part++) {
            int kind = kinds[part];
            s.answers("part of " + kind, part, x -> x.why(kind, 0));
        }
        s.answers("none", NONE, x -> x.why(1, 0));
        s.answers("none", NONE, x -> x.why(18, 0));
    }

    /** "A byte (0 to 255) comes behind LAWS: how many. BAD; FULL." */
    private static void promise9() {
        NEW.range("byte", 0, 1, 255, 1, n -> x -> x.type(n));
        TOWN.range("byte", 0, 26, 255, 26, n -> x -> x.type(n));
        NEW.then("byte 255").does(x -> x.type(255)).answers("no part begins with it", 0, x -> x.fault());
        NEW.refuses("a byte and 256", BAD, x -> x.type(256 + 'n'));
    }

    /** "LAWS are empty: how many bytes they had." */
    private static void promise10() {
        NEW.answers("none", 0, x -> x.wipe());
        TOWN.answers("so many", 25, x -> x.wipe());
        Scene s = TOWN.then("wiped").does(x -> x.wipe());
        s.answers("none any more", 0, x -> x.wipe());
        s.answers("none any more", 0, x -> x.count(8));
        withoutAny(s);
    }

    /** "The FAULT; NONE." */
    private static void promise11() {
        NEW.answers("of an empty text", 0, x -> x.fault());
        TOWN.answers("none", NONE, x -> x.fault());
        TOWN.then("a ; more").types(";").answers("behind it", 26, x -> x.fault());
    }

    /** "The right answer of a QUESTION on a DAY; NONE. BAD." */
    private static void promise12() {
        Scene s = TOWN.then("other laws").laws("q0=5;q19=6;q0=7@399");
        s.range("question", 0, 5, 19, 6, n -> x -> x.right(n, 0));
        s.range("day", 0, 5, 399, 7, n -> x -> x.right(0, n));
        s.answers("none", NONE, x -> x.right(18, 399));
    }

    /** "By LAW on a DAY: 0 n, 1 k, 2 s, 3 w. BAD." */
    private static void promise13() {
        Scene s = TOWN.then("other laws").laws("n=5;w=6;n=7@399");
        s.range("what", 0, 5, 3, 6, n -> x -> x.law(n, 0));
        s.range("day", 0, 5, 399, 7, n -> x -> x.law(0, n));
    }

    /** "of a QUESTION (0 to 19), or of n, k, s, w (20 to 23), on a DAY. BAD." */
    private static void promise14() {
        Scene s = TOWN.then("other laws").laws("k=1;q0=5;w=6;q19=6;n=2;q0=1@399");
        s.range("what", 0, 1, 23, 2, n -> x -> x.why(n, 0));
        s.answers("the last QUESTION", 3, x -> x.why(19, 0));
        s.answers("n", 4, x -> x.why(20, 0));
        s.range("day", 0, 1, 399, 5, n -> x -> x.why(0, n));
    }
}
