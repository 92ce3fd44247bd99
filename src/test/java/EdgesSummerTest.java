/** The edges of Terms 8 and of promises 42 to 45, sentence by sentence. */
final class EdgesSummerTest {
    private static final int NONE = -1, BAD = -2, FULL = -4;
    private static final Check CHECK = new Check("EdgesSummerTest");
    private static final Scene NEW = new Scene(CHECK, "new");
    private static final Scene TOWN = Scene.town(CHECK);

    private EdgesSummerTest() {
    }

    public static void main(String[] args) {
        eightChoices();
        pricesFrom0To100();
        someAreTakenInOrder();
        lessonsUpTo20();
        lessonsOfASortThatKAllows();
        oneThatIsOffOrStruck();
        onceOnItRidesNoMore();
        allRightAnswers();
        byTextSchoolingAndSort();
        whoIsReadyThen();
        withinAPrice();
        theMostOn();
        thenTheMostReady();
        thenTheLeastPrice();
        thenTheFewestChoices();
        thenTheLeastAsBits();
        nothingChangesByIt();
        promise42();
        promise43();
        promise44();
        promise44Bits();
        promise45();
        CHECK.end();
    }

    private static Scene lessons(int many) {
        return NEW.then(many + " lessons").laws("n=0;s=20").does(x -> x.person(5, 0, 4, 0, NONE),
                x -> x.person(0, 1, 20, 0, NONE)).times(many, i -> x -> x.choice(false, 5, 100));
    }

    /** "up to 8 CHOICES" */
    private static void eightChoices() {
        lessons(7).answers("the last", 8, x -> x.choice(true, 0, 0));
        Scene full = lessons(8);
        full.answers("so many", 8, x -> x.count(7));
        full.answers("all make one more ready", 2, x -> x.judge(255, 1));
        full.answers("all but one do not", 1, x -> x.judge(127, 1));
        full.answers("the price of all", 800, x -> x.judge(255, 2));
        full.answers("the best", 255, x -> x.best(800));
        full.answers("one too dear", 0, x -> x.best(799));
        full.refuses("a ninth lesson", FULL, x -> x.choice(false, 0, 0));
        full.refuses("a ninth, a ride", FULL, x -> x.choice(true, 0, 0));
        full.refuses("BAD ahead of FULL: beat", BAD, x -> x.choice(false, 6, 0));
        full.refuses("BAD ahead of FULL: person", BAD, x -> x.choice(true, 2, 0));
        full.refuses("BAD ahead of FULL: price", BAD, x -> x.choice(false, 0, 101));
        full.refuses("beyond all bits", BAD, x -> x.judge(256, 0));
        Scene town = TOWN.then("six more").times(6, i -> x -> x.choice(i % 2 == 0, i % 6, i));
        town.refuses("a ninth lesson", FULL, x -> x.choice(false, 0, 0));
        town.refuses("a ninth, a ride", FULL, x -> x.choice(true, 0, 0));
    }

    /** "with a price (0 to 100)" */
    private static void pricesFrom0To100() {
        Scene s = NEW.then("prices").does(x -> x.person(0, 0, 0, 0, NONE), x -> x.choice(false, 0, 0),
                x -> x.choice(true, 0, 100), x -> x.choice(false, 5, 1));
        int[] prices = {0, 0, 100, 100, 1, 1, 101, 101};
        for (int i = 0; i < 8; i++) {
            int bits = i;
            s.answers("price of " + bits, prices[bits], x -> x.judge(bits, 2));
        }
    }

    /** "Some of them are taken, in order" */
    private static void someAreTakenInOrder() {
        Scene s = NEW.then("ride, lesson, ride").laws("n=0;s=6").does(x -> x.person(0, 0, 4, 0, NONE),
                x -> x.choice(true, 0, 0), x -> x.choice(false, 0, 0), x -> x.choice(true, 0, 0));
        int[] on = {0, 0, 0, 0, 0, 0, 1, 1};
        int[] ready = {0, 0, 1, 1, 0, 0, 0, 0};
        for (int i = 0; i < 8; i++) {
            int bits = i;
            s.answers("on by " + bits, on[bits], x -> x.judge(bits, 0));
            s.answers("ready by " + bits, ready[bits], x -> x.judge(bits, 1));
        }
    }

    /** A lesson gives 2, up to 20, in a summer, too. */
    private static void lessonsUpTo20() {
        int[][] cases = {{19, 20, 0, 0}, {19, 20, 1, 1}, {18, 20, 1, 1}, {17, 20, 1, 0}, {17, 20, 2, 1}, {20, 21, 8, 0},
            {4, 20, 7, 0}, {4, 20, 8, 1}, {0, 16, 8, 1}, {0, 17, 8, 0}};
        for (int[] one : cases) {
            Scene s = NEW.then(one[0] + " for " + one[1]).laws("n=0;s=" + one[1]).does(x -> x.person(3, 1, one[0], 0, NONE))
                    .times(one[2], i -> x -> x.choice(false, 3, 0));
            s.answers("ready by " + one[2], one[3], x -> x.judge((1 << one[2]) - 1, 1));
            if (one[2] < 8) {
                s.then("a ride behind").does(x -> x.choice(true, 0, 0)).answers("on by " + one[2], one[3],
                        x -> x.judge((2 << one[2]) - 1, 0));
            }
        }
    }

    private static void lessonsOfASortThatKAllows() {
        Scene s = NEW.then("k=2, k=3 from day 1").laws("n=0;s=5;k=2;k=3@1").does(x -> x.person(0, 0, 4, 0, NONE),
                x -> x.choice(false, 0, 0), x -> x.choice(true, 0, 0));
        s.answers("not of its sort", 0, x -> x.judge(3, 0) + x.judge(3, 1));
        s.then("a day on").does(x -> x.pass(1)).answers("by LAW at the DAY", 1, x -> x.judge(3, 0));
    }

    /** "a RIDE of a PERSON (one that is OFF or STRUCK ..)" */
    private static void oneThatIsOffOrStruck() {
        Scene s = NEW.then("in all states").laws("n=0").times(5, i -> x -> x.person(i, 0, 0, 0, NONE)).enrolls(0, 1, 2)
                .does(x -> x.put(2, 2), x -> x.put(3, 3), x -> x.put(4, 4)).times(5, i -> x -> x.choice(true, i, 0));
        int[] on = {1, 0, 1, 0, 0};
        for (int i = 0; i < 5; i++) {
            int person = i;
            s.answers("on by the ride of " + person, on[person], x -> x.judge(1 << person, 0));
        }
        s.answers("by all", 2, x -> x.judge(31, 0));
        s.answers("ready then", 0, x -> x.judge(31, 1));
    }

    private static void onceOnItRidesNoMore() {
        Scene s = NEW.then("eight rides").laws("n=0").does(x -> x.person(0, 0, 0, 0, NONE), x -> x.person(0, 0, 0, 0, NONE))
                .times(8, i -> x -> x.choice(true, i / 7, 0));
        s.answers("of one", 1, x -> x.judge(127, 0));
        s.answers("of two", 2, x -> x.judge(255, 0));
        s.answers("of the last", 1, x -> x.judge(128, 0));
        s.answers("the best", 129, x -> x.best(0));
    }

    /** "hands in a FORM that has all right answers by LAW at the DAY" */
    private static void allRightAnswers() {
        String[] laws = {"", "n=0", "q0=0", "q19=99", "q19=99;n=2", "q19=99;q0=1;n=2", "q19=99;q0=1;n=3",
            "q0=1;q0=2;n=2", "q0=1@1"};
        int[] on = {0, 1, 1, 1, 0, 1, 0, 0, 0};
        for (int i = 0; i < laws.length; i++) {
            Scene s = NEW.then("\"" + laws[i] + "\"").laws(laws[i]).does(x -> x.person(0, 0, 0, 0, NONE),
                    x -> x.choice(true, 0, 0));
            s.answers("on", on[i], x -> x.judge(1, 0));
        }
        Scene all = NEW.then("20 questions").laws("q0=0;q1=0;q2=0;q3=0;q4=0;q5=0;q6=0;q7=0;q8=0;q9=0;q10=0;q11=0;"
                + "q12=0;q13=0;q14=0;q15=0;q16=0;q17=0;q18=0;q19=0").does(x -> x.person(0, 0, 0, 0, NONE),
                x -> x.choice(true, 0, 0));
        all.then("n=20").types(";n=20").answers("on", 1, x -> x.judge(1, 0));
        all.then("n=21").types(";n=21").answers("not on", 0, x -> x.judge(1, 0));
    }

    /** "and is ON, if BY TEXT it is to be passed" */
    private static void byTextSchoolingAndSort() {
        int[] s = {0, 7, 8, 9};
        for (int least : s) {
            Scene scene = NEW.then("s=" + least).laws("n=0;s=" + least).does(x -> x.person(0, 1, 8, 0, NONE),
                    x -> x.choice(true, 0, 0));
            scene.answers("on", least <= 8 ? 1 : 0, x -> x.judge(1, 0));
        }
        for (int k = 1; k <= 3; k++) {
            Scene scene = NEW.then("k=" + k).laws("n=0;k=" + k).does(x -> x.person(0, 1, 8, 0, NONE),
                    x -> x.choice(true, 0, 0));
            scene.answers("on", k >> 1, x -> x.judge(1, 0));
        }
    }

    /** "then it is counted who came ON by RIDES, and who is READY" */
    private static void whoIsReadyThen() {
        Scene s = NEW.then("three, one ON").laws("n=0;s=5").does(x -> x.person(0, 0, 5, 0, NONE),
                x -> x.person(0, 1, 5, 0, NONE), x -> x.person(1, 1, 4, 0, NONE)).enrolls(0, 1).does(
                x -> x.choice(true, 0, 0), x -> x.choice(false, 1, 0));
        s.answers("nothing", 1, x -> x.judge(0, 1));
        s.answers("the ride", 0, x -> x.judge(1, 1));
        s.answers("the lesson", 2, x -> x.judge(2, 1));
        s.answers("both", 1, x -> x.judge(3, 1));
        s.answers("those ON before do not count", 1, x -> x.judge(3, 0));
    }

    /** "THE BEST within a price" */
    private static void withinAPrice() {
        Scene s = NEW.then("rides for 10 and 100").laws("n=0").does(x -> x.person(0, 0, 0, 0, NONE),
                x -> x.person(0, 0, 0, 0, NONE), x -> x.choice(true, 0, 10), x -> x.choice(true, 1, 100));
        int[] prices = {0, 9, 10, 99, 100, 109, 110, 1000};
        int[] best = {0, 0, 1, 1, 1, 1, 3, 3};
        for (int i = 0; i < prices.length; i++) {
            int price = prices[i];
            s.answers("within " + price, best[i], x -> x.best(price));
        }
        Scene free = NEW.then("for nothing").laws("n=0").does(x -> x.person(0, 0, 0, 0, NONE), x -> x.choice(true, 0, 0));
        free.answers("within 0", 1, x -> x.best(0));
    }

    /** "the most ON, then the most READY" */
    private static void theMostOn() {
        Scene s = NEW.then("one ride or many ready").laws("n=0;s=5").does(x -> x.person(0, 0, 5, 0, NONE),
                x -> x.person(1, 0, 4, 0, NONE), x -> x.person(1, 0, 4, 0, NONE), x -> x.choice(false, 1, 5),
                x -> x.choice(true, 0, 5));
        s.answers("the ride", 2, x -> x.best(5));
        s.answers("within 9", 2, x -> x.best(9));
        s.answers("both", 3, x -> x.best(10));
        s.answers("neither", 0, x -> x.best(4));
    }

    private static void thenTheMostReady() {
        Scene s = NEW.then("lessons").laws("s=5").does(x -> x.person(0, 0, 4, 0, NONE), x -> x.person(1, 0, 4, 0, NONE),
                x -> x.person(1, 0, 4, 0, NONE), x -> x.choice(false, 0, 1), x -> x.choice(false, 1, 9));
        s.answers("the dearer", 2, x -> x.best(9));
        s.answers("the cheaper", 1, x -> x.best(8));
        s.answers("both", 3, x -> x.best(10));
    }

    private static void thenTheLeastPrice() {
        Scene s = NEW.then("rides for 3, 2, 2").laws("n=0").does(x -> x.person(0, 0, 0, 0, NONE), x -> x.choice(true, 0, 3),
                x -> x.choice(true, 0, 2), x -> x.choice(true, 0, 2));
        s.answers("within 1000", 2, x -> x.best(1000));
        s.answers("within 2", 2, x -> x.best(2));
        s.answers("within 1", 0, x -> x.best(1));
        s.then("for 1").does(x -> x.choice(true, 0, 1)).answers("the last", 8, x -> x.best(1000));
    }

    private static void thenTheFewestChoices() {
        Scene s = NEW.then("two for nothing or one").laws("s=5").does(x -> x.person(0, 0, 1, 0, NONE),
                x -> x.person(1, 0, 4, 0, NONE), x -> x.choice(false, 0, 0), x -> x.choice(false, 0, 0),
                x -> x.choice(false, 1, 0), x -> x.choice(false, 2, 0));
        s.answers("without the idle one", 7, x -> x.best(0));
        Scene one = NEW.then("one of like price").laws("s=5").does(x -> x.person(0, 0, 1, 0, NONE),
                x -> x.person(1, 0, 4, 0, NONE), x -> x.choice(false, 0, 1), x -> x.choice(false, 0, 1),
                x -> x.choice(false, 1, 2));
        one.answers("one for 2, not two for 1", 4, x -> x.best(2));
        one.answers("both are ready", 7, x -> x.best(4));
        Scene idle = NEW.then("idle ones").does(x -> x.choice(false, 0, 0), x -> x.choice(false, 5, 0));
        idle.answers("none", 0, x -> x.best(1000));
    }

    private static void thenTheLeastAsBits() {
        Scene s = NEW.then("eight alike").laws("n=0").does(x -> x.person(0, 0, 0, 0, NONE))
                .times(8, i -> x -> x.choice(true, 0, 7));
        s.answers("the first", 1, x -> x.best(1000));
        Scene two = NEW.then("like ones").laws("s=5").does(x -> x.person(0, 0, 4, 0, NONE), x -> x.person(1, 0, 4, 0, NONE),
                x -> x.choice(false, 2, 1), x -> x.choice(false, 1, 1), x -> x.choice(false, 0, 1));
        two.answers("the lesser bits", 2, x -> x.best(1));
        two.answers("both", 6, x -> x.best(2));
    }

    /** "(Nothing changes by it.)" */
    private static void nothingChangesByIt() {
        Scene s = TOWN.then("a ride more").laws("n=0").does(x -> x.choice(true, 0, 0));
        long digest = s.play().digest();
        for (int i = 0; i < 3; i++) {
            int what = i;
            s.then("judged").does(x -> x.judge(7, what)).answers("digest", digest, x -> x.digest());
        }
        s.then("the best").does(x -> x.best(1000)).answers("digest", digest, x -> x.digest());
        Scene full = NEW.then("60 forms").laws("n=0").does(x -> x.person(0, 0, 0, 0, NONE), x -> x.sheet(0, 0, 0))
                .times(60, i -> x -> x.form(0, 0)).does(x -> x.choice(true, 0, 0));
        full.answers("no room is needed for it", 1, x -> x.judge(1, 0));
    }

    /** "a lesson (ride = false; which a BEAT), a ride (which a PERSON): how many. BAD; FULL." */
    private static void promise42() {
        TOWN.range("beat", 0, 3, 5, 3, n -> x -> x.choice(false, n, 0));
        TOWN.range("person", 0, 3, 7, 3, n -> x -> x.choice(true, n, 0));
        TOWN.range("price of a lesson", 0, 3, 100, 3, n -> x -> x.choice(false, 0, n));
        TOWN.range("price of a ride", 0, 3, 100, 3, n -> x -> x.choice(true, 0, n));
        NEW.refuses("nobody rides", BAD, x -> x.choice(true, 0, 0));
        NEW.answers("a lesson for nobody", 1, x -> x.choice(false, 0, 0));
    }

    /** "No CHOICES: how many there were." */
    private static void promise43() {
        NEW.answers("none", 0, x -> x.drop());
        TOWN.answers("two", 2, x -> x.drop());
        lessons(8).answers("all", 8, x -> x.drop());
        Scene none = lessons(8).then("dropped").does(x -> x.drop());
        none.answers("none any more", 0, x -> x.drop());
        none.answers("none", 0, x -> x.count(7));
        none.answers("the best of none", 0, x -> x.best(1000));
        none.refuses("the first is not there", BAD, x -> x.judge(1, 2));
        none.answers("anew", 1, x -> x.choice(false, 0, 0));
        none.then("one").does(x -> x.choice(false, 0, 4)).answers("its price", 4, x -> x.judge(1, 2));
    }

    /** "Of CHOICES (bits) taken: 0 ON by rides, 1 READY, 2 the price. BAD." */
    private static void promise44() {
        Scene s = TOWN.then("a ride more").does(x -> x.choice(true, 0, 7));
        s.range("bits", 0, 0, 7, 15, n -> x -> x.judge(n, 2));
        s.range("what", 0, 2, 2, 15, n -> x -> x.judge(7, n));
        s.answers("nothing taken: on", 0, x -> x.judge(0, 0));
        s.answers("nothing taken: ready", 5, x -> x.judge(0, 1));
        s.answers("nothing taken: the price", 0, x -> x.judge(0, 2));
    }

    /** A bit for which there is no choice: no such thing. */
    private static void promise44Bits() {
        for (int many = 0; many <= 8; many++) {
            int beyond = 1 << many;
            lessons(many).refuses("the first bit beyond", BAD, x -> x.judge(beyond, 2));
            lessons(many).answers("all", 100 * many, x -> x.judge(beyond - 1, 2));
        }
    }

    /** "THE BEST within a price (0 to 1000), as bits. BAD." */
    private static void promise45() {
        TOWN.range("price", 0, 0, 1000, 2, n -> x -> x.best(n));
        TOWN.answers("for its price", 2, x -> x.best(3));
        TOWN.answers("for less", 0, x -> x.best(2));
        NEW.range("price", 0, 0, 1000, 0, n -> x -> x.best(n));
    }
}
