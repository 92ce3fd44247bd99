/** The edges of the SHEETS and FINDINGS in Terms 1 and of promises 46 to 51, sentence by sentence. */
final class EdgesSheetsTest {
    private static final int NONE = -1, BAD = -2;
    private static final int NULL = -11, INDEX = -12, CAST = -13, STORE = -14, SIZE = -15;
    private static final int LEAST = Integer.MIN_VALUE, MOST = Integer.MAX_VALUE;
    private static final Check CHECK = new Check("EdgesSheetsTest");
    private static final Scene NEW = new Scene(CHECK, "new");
    private static final Scene TOWN = Scene.town(CHECK);
    /** Sheet 0 bytes, 1 shorts, 2 ints of five items 1 to 5, 3 ints of three items 6 to 8. */
    private static final Scene ROWS = TOWN.then("rows").does(x -> x.sheet(0, 0, 5), x -> x.sheet(1, 1, 5))
            .ints(2, 1, 2, 3, 4, 5).ints(3, 6, 7, 8);
    private static final Scene INTS = TOWN.then("all ints").ints(0, 1).ints(1, 2).ints(2, 3).ints(3, 4);

    private EdgesSheetsTest() {
    }

    public static void main(String[] args) {
        sheetsAreLostAtFirst();
        upTo40Items();
        itemsAre0AtFirst();
        bytesWrap();
        shortsWrap();
        intsHoldAll();
        findings();
        promise46();
        promise46Size();
        promise47();
        promise48();
        promise48InOrder();
        promise49();
        promise49InOrder();
        promise50();
        promise50Itself();
        promise50Null();
        promise50Store();
        promise50Index();
        promise50Nothing();
        promise51();
        promise51AsManyAsThereAre();
        promise51ByLawAtTheDay();
        CHECK.end();
    }

    /** "SHEETS 0 .. 3 are LOST (at first)" */
    private static void sheetsAreLostAtFirst() {
        for (int i = 0; i < 4; i++) {
            int s = i;
            NEW.finds("lay on " + s, NULL, 1, x -> x.lay(s, 0, 0, 0));
            NEW.finds("write on " + s, NULL, 1, x -> x.write(s));
            NEW.finds("copy of " + s, NULL, 1, x -> x.copy(s, 0, s, 0, 0));
            NEW.answers("a new row", 0, x -> x.sheet(s, 0, 0));
            Scene none = NEW.then("a row of none").does(x -> x.sheet(s, 0, 0));
            none.finds("it is not lost, it has no item", INDEX, 2, x -> x.lay(s, 0, 0, 0));
        }
    }

    /** "a row of a TYPE: .. of 0 to 40 items" */
    private static void upTo40Items() {
        for (int i = 0; i < 3; i++) {
            int type = i;
            Scene most = NEW.then("40 of type " + type).does(x -> x.sheet(0, type, 40));
            most.answers("the last", 1, x -> x.lay(0, type, 39, 1));
            most.finds("no 41st", INDEX, 2, x -> x.lay(0, type, 40, 1));
            most.finds("no 41st to get", LEAST, 2, x -> x.get(0, type, 40));
            most.answers("so many", 40, x -> x.lose(0));
            Scene none = NEW.then("none of type " + type).does(x -> x.sheet(0, type, 0));
            none.finds("no first", INDEX, 2, x -> x.lay(0, type, 0, 1));
            none.finds("no first to get", LEAST, 2, x -> x.get(0, type, 0));
            none.answers("so many", 0, x -> x.lose(0));
        }
    }

    /** "(0 at first)" */
    private static void itemsAre0AtFirst() {
        for (int i = 0; i < 3; i++) {
            int type = i;
            Scene again = NEW.then("a row in place of another").does(x -> x.sheet(0, 2, 40))
                    .times(40, n -> x -> x.lay(0, 2, n, n + 1)).does(x -> x.sheet(0, type, 40));
            for (int item : new int[] {0, 1, 38, 39}) {
                again.answers("item " + item, 0, x -> x.get(0, type, item));
            }
            Scene lost = NEW.then("a row behind a loss").does(x -> x.sheet(0, type, 2), x -> x.lay(0, type, 1, 9),
                    x -> x.lose(0), x -> x.sheet(0, type, 2));
            lost.answers("item 1", 0, x -> x.get(0, type, 1));
        }
    }

    private static void wraps(int type, int v, int want) {
        Scene s = NEW.then(v + " of type " + type).does(x -> x.sheet(3, type, 1), x -> x.lay(3, type, 0, v));
        s.answers("item", want, x -> x.get(3, type, 0));
        s.answers("lay", 1, x -> x.lay(3, type, 0, v));
    }

    /** "becomes v (the lowest bits that it has)" */
    private static void bytesWrap() {
        wraps(0, 127, 127);
        wraps(0, 128, -128);
        wraps(0, 255, -1);
        wraps(0, 256, 0);
        wraps(0, -128, -128);
        wraps(0, -129, 127);
        wraps(0, -256, 0);
        wraps(0, MOST, -1);
        wraps(0, LEAST, 0);
    }

    private static void shortsWrap() {
        wraps(1, 127, 127);
        wraps(1, 128, 128);
        wraps(1, 32767, 32767);
        wraps(1, 32768, -32768);
        wraps(1, 65535, -1);
        wraps(1, 65536, 0);
        wraps(1, -32768, -32768);
        wraps(1, -32769, 32767);
        wraps(1, MOST, -1);
        wraps(1, LEAST, 0);
    }

    private static void intsHoldAll() {
        wraps(2, 32768, 32768);
        wraps(2, 65536, 65536);
        wraps(2, -32769, -32769);
        wraps(2, MOST, MOST);
        wraps(2, LEAST, LEAST);
        Scene least = NEW.then("the least int").ints(0, LEAST);
        least.answers("it is an item like others: no finding", 0, x -> x.get(0, 2, 0) == LEAST ? x.count(9) : NONE);
    }

    /** "FINDINGS (answers -10 less the number; they change nothing but count() 9)" */
    private static void findings() {
        Scene s = TOWN.then("a finding of before").does(x -> x.lay(0, 0, 3, 0));
        s.answers("it is told", 2, x -> x.count(9));
        s.finds("NULL", NULL, 1, x -> x.lose(3));
        s.finds("CAST", CAST, 3, x -> x.lay(0, 1, 0, 0));
        s.finds("STORE", STORE, 4, x -> x.copy(0, 0, 1, 0, 1));
        s.finds("SIZE", SIZE, 5, x -> x.sheet(0, 0, -1));
        TOWN.finds("INDEX", INDEX, 2, x -> x.lay(0, 0, 3, 0));
        s.then("another").does(x -> x.lose(3), x -> x.sheet(0, 0, -1)).answers("the latest", 5, x -> x.count(9));
        s.then("BAD").does(x -> x.lose(4), x -> x.get(4, 0, 0)).answers("the latest finding", 2, x -> x.count(9));
        s.then("a good call").does(x -> x.lose(0)).answers("the latest finding", 2, x -> x.count(9));
    }

    /** "A SHEET is a new row of a TYPE with n items: n. BAD: SHEET, TYPE, above 40; SIZE." */
    private static void promise46() {
        TOWN.range("sheet", 0, 7, 3, 7, n -> x -> x.sheet(n, 0, 7));
        TOWN.range("type", 0, 7, 2, 7, n -> x -> x.sheet(0, n, 7));
        TOWN.answers("no items", 0, x -> x.sheet(0, 0, 0));
        TOWN.answers("the most", 40, x -> x.sheet(0, 0, 40));
        TOWN.refuses("one above", BAD, x -> x.sheet(0, 0, 41));
        TOWN.refuses("far above", BAD, x -> x.sheet(0, 0, MOST));
        Scene other = TOWN.then("of another type").does(x -> x.sheet(0, 2, 2));
        other.finds("not of the one before", CAST, 3, x -> x.lay(0, 0, 0, 0));
        other.answers("of this", 1, x -> x.lay(0, 2, 1, 0));
    }

    /** "5 SIZE: below 0" */
    private static void promise46Size() {
        Scene s = TOWN.then("NULL before").does(x -> x.lose(3));
        s.finds("one below", SIZE, 5, x -> x.sheet(0, 0, -1));
        s.finds("far below", SIZE, 5, x -> x.sheet(2, 2, LEAST));
        s.finds("of one that is lost", SIZE, 5, x -> x.sheet(3, 0, -1));
        s.then("refused").does(x -> x.sheet(3, 0, -1)).finds("it is lost still", NULL, 1, x -> x.lose(3));
        s.refuses("BAD ahead of SIZE: sheet", BAD, x -> x.sheet(4, 0, -1));
        s.refuses("BAD ahead of SIZE: type", BAD, x -> x.sheet(0, 3, -1));
    }

    /** "It is LOST: how many items it had. BAD; NULL." */
    private static void promise47() {
        ROWS.range("sheet", 0, 5, 3, 3, n -> x -> x.lose(n));
        ROWS.then("1 lost").does(x -> x.lose(1)).finds("lost before", NULL, 1, x -> x.lose(1));
        TOWN.finds("one that is lost", NULL, 1, x -> x.lose(3));
        TOWN.answers("the most items", 40, x -> x.lose(2));
        NEW.refuses("BAD ahead of NULL", BAD, x -> x.lose(4));
    }

    /** "Item i, treated as of a TYPE, becomes v: 1. BAD; NULL; CAST; INDEX." */
    private static void promise48() {
        TOWN.answers("the first", 1, x -> x.lay(2, 2, 0, 9));
        TOWN.answers("the last", 1, x -> x.lay(2, 2, 39, 9));
        TOWN.finds("one below", INDEX, 2, x -> x.lay(2, 2, -1, 9));
        TOWN.finds("one above", INDEX, 2, x -> x.lay(2, 2, 40, 9));
        TOWN.finds("far below", INDEX, 2, x -> x.lay(2, 2, LEAST, 9));
        TOWN.finds("far above", INDEX, 2, x -> x.lay(2, 2, MOST, 9));
        ROWS.answers("the last of five", 1, x -> x.lay(0, 0, 4, 9));
        ROWS.finds("no sixth", INDEX, 2, x -> x.lay(0, 0, 5, 9));
        asOfEachType();
        Scene laid = ROWS.then("item 4 laid").does(x -> x.lay(2, 2, 4, 9));
        laid.answers("it", 9, x -> x.get(2, 2, 4));
        laid.answers("the one before", 4, x -> x.get(2, 2, 3));
    }

    /** "treated as of a TYPE"; "3 CAST: it has another TYPE" */
    private static void asOfEachType() {
        for (int i = 0; i < 9; i++) {
            int s = i / 3;
            int type = i % 3;
            if (s == type) {
                ROWS.answers("sheet " + s + " as of its type", 1, x -> x.lay(s, type, 0, 1));
                ROWS.answers("its item", s < 2 ? 0 : 1, x -> x.get(s, type, 0));
            } else {
                ROWS.finds("sheet " + s + " as of type " + type, CAST, 3, x -> x.lay(s, type, 0, 1));
                ROWS.finds("its item as of type " + type, LEAST, 3, x -> x.get(s, type, 0));
            }
        }
    }

    private static void promise48InOrder() {
        INTS.range("sheet", 0, 1, 3, 1, n -> x -> x.lay(n, 2, 0, 1));
        for (int type : new int[] {-1, 3, LEAST, MOST}) {
            ROWS.refuses("type " + type, BAD, x -> x.lay(0, type, 0, 1));
        }
        TOWN.refuses("BAD ahead of NULL: type", BAD, x -> x.lay(3, 3, 0, 1));
        TOWN.refuses("BAD ahead of NULL: sheet", BAD, x -> x.lay(4, 0, 0, 1));
        TOWN.refuses("BAD ahead of INDEX", BAD, x -> x.lay(0, 3, 9, 1));
        TOWN.finds("NULL ahead of CAST and INDEX", NULL, 1, x -> x.lay(3, 1, 50, 1));
        TOWN.finds("CAST ahead of INDEX", CAST, 3, x -> x.lay(0, 1, 3, 1));
        TOWN.finds("CAST ahead of INDEX below", CAST, 3, x -> x.lay(0, 1, -1, 1));
    }

    /** "Item i of it. BAD: the least int; so are NULL, CAST, INDEX (count() 9 tells)." */
    private static void promise49() {
        ROWS.answers("the first", 1, x -> x.get(2, 2, 0));
        ROWS.answers("the last", 5, x -> x.get(2, 2, 4));
        ROWS.finds("one below", LEAST, 2, x -> x.get(2, 2, -1));
        ROWS.finds("one above", LEAST, 2, x -> x.get(2, 2, 5));
        ROWS.finds("far below", LEAST, 2, x -> x.get(2, 2, LEAST));
        ROWS.finds("far above", LEAST, 2, x -> x.get(2, 2, MOST));
        TOWN.answers("the 40th", 5, x -> x.get(2, 2, 39));
        TOWN.finds("no 41st", LEAST, 2, x -> x.get(2, 2, 40));
        TOWN.finds("lost", LEAST, 1, x -> x.get(3, 0, 0));
        TOWN.finds("as of another type", LEAST, 3, x -> x.get(2, 1, 0));
    }

    private static void promise49InOrder() {
        for (int sheet : new int[] {-1, 4, LEAST, MOST}) {
            TOWN.refuses("sheet " + sheet, LEAST, x -> x.get(sheet, 0, 0));
        }
        for (int type : new int[] {-1, 3, LEAST, MOST}) {
            TOWN.refuses("type " + type, LEAST, x -> x.get(0, type, 0));
        }
        TOWN.refuses("BAD ahead of NULL", LEAST, x -> x.get(3, 3, 0));
        TOWN.finds("NULL ahead of CAST and INDEX", LEAST, 1, x -> x.get(3, 1, 50));
        TOWN.finds("CAST ahead of INDEX", LEAST, 3, x -> x.get(0, 1, 50));
    }

    private static void row(Scene s, int sheet, int... want) {
        for (int i = 0; i < want.length; i++) {
            int item = i;
            s.answers("item " + item + " of sheet " + sheet, want[item], x -> x.get(sheet, 2, item));
        }
    }

    /** "n items of SHEET s, from i on, come to SHEET t .. from j on: 1" */
    private static void promise50() {
        ROWS.answers("all that there is room for", 1, x -> x.copy(2, 2, 3, 0, 3));
        row(ROWS.then("copied").does(x -> x.copy(2, 2, 3, 0, 3)), 3, 3, 4, 5);
        row(ROWS.then("the last to the first").does(x -> x.copy(2, 4, 3, 0, 1)), 3, 5, 7, 8);
        row(ROWS.then("the first to the last").does(x -> x.copy(3, 0, 2, 4, 1)), 2, 1, 2, 3, 4, 6);
        row(ROWS.then("the source stays").does(x -> x.copy(2, 2, 3, 0, 3)), 2, 1, 2, 3, 4, 5);
        INTS.range("sheet", 0, 1, 3, 1, n -> x -> x.copy(n, 0, 2, 0, 1));
        INTS.range("to sheet", 0, 1, 3, 1, n -> x -> x.copy(2, 0, n, 0, 1));
    }

    /** "(perhaps s, as they were)" */
    private static void promise50Itself() {
        row(ROWS.then("a step on").does(x -> x.copy(2, 0, 2, 1, 4)), 2, 1, 1, 2, 3, 4);
        row(ROWS.then("a step back").does(x -> x.copy(2, 1, 2, 0, 4)), 2, 2, 3, 4, 5, 5);
        row(ROWS.then("two steps on").does(x -> x.copy(2, 0, 2, 2, 3)), 2, 1, 2, 1, 2, 3);
        row(ROWS.then("where they were").does(x -> x.copy(2, 0, 2, 0, 5)), 2, 1, 2, 3, 4, 5);
        ROWS.finds("a step too far", INDEX, 2, x -> x.copy(2, 0, 2, 1, 5));
    }

    /** "NULL: s, t" */
    private static void promise50Null() {
        Scene s = ROWS.then("3 lost").does(x -> x.lose(3));
        s.finds("from it", NULL, 1, x -> x.copy(3, 0, 2, 0, 1));
        s.finds("to it", NULL, 1, x -> x.copy(2, 0, 3, 0, 1));
        s.finds("from it to it", NULL, 1, x -> x.copy(3, 0, 3, 0, 0));
        s.finds("NULL ahead of STORE", NULL, 1, x -> x.copy(0, 0, 3, 0, 1));
        s.finds("NULL ahead of INDEX", NULL, 1, x -> x.copy(2, 9, 3, 9, -1));
        s.refuses("BAD ahead of NULL", BAD, x -> x.copy(3, 0, 4, 0, 0));
        s.refuses("BAD ahead of NULL", BAD, x -> x.copy(-1, 0, 3, 0, 0));
    }

    /** "4 STORE: unlike TYPES" */
    private static void promise50Store() {
        for (int i = 0; i < 9; i++) {
            int s = i / 3;
            int t = i % 3;
            if (s != t) {
                ROWS.finds(s + " to " + t, STORE, 4, x -> x.copy(s, 0, t, 0, 1));
                ROWS.finds(s + " to " + t + ", no items", STORE, 4, x -> x.copy(s, 0, t, 0, 0));
            }
        }
        ROWS.finds("STORE ahead of INDEX", STORE, 4, x -> x.copy(0, -1, 2, 0, 1));
        ROWS.finds("STORE ahead of INDEX", STORE, 4, x -> x.copy(0, 0, 2, 0, 6));
    }

    /** "INDEX: below 0, not so many" */
    private static void promise50Index() {
        int[][] cases = {{-1, 0, 1}, {0, -1, 1}, {0, 0, -1}, {5, 0, 1}, {4, 0, 2}, {0, 3, 1}, {0, 2, 2}, {0, 0, 4}, {6, 0, 0},
            {0, 4, 0}, {LEAST, 0, 1}, {0, LEAST, 1}, {0, 0, LEAST}, {MOST, 0, 1}, {0, MOST, 1}, {0, 0, MOST},
            {1, 1, MOST}, {MOST, MOST, MOST}, {MOST, 0, 0}, {1, 0, -1}, {2, 2, -2}};
        for (int[] one : cases) {
            ROWS.finds("from " + one[0] + " to " + one[1] + ", " + one[2], INDEX, 2,
                    x -> x.copy(2, one[0], 3, one[1], one[2]));
        }
        TOWN.finds("not so many, 3 is lost", INDEX, 2, x -> x.copy(2, 0, 2, 1, 40));
        TOWN.answers("just so many, 3 is lost", 1, x -> x.copy(2, 0, 2, 1, 39));
        ROWS.answers("just so many", 1, x -> x.copy(2, 2, 3, 0, 3));
        ROWS.answers("just so many there", 1, x -> x.copy(2, 0, 3, 2, 1));
    }

    /** No items: from and to any place up to the end. */
    private static void promise50Nothing() {
        int[][] cases = {{0, 0}, {5, 0}, {0, 3}, {5, 3}};
        for (int[] one : cases) {
            ROWS.answers("none from " + one[0] + " to " + one[1], 1, x -> x.copy(2, one[0], 3, one[1], 0));
            row(ROWS.then("none copied").does(x -> x.copy(2, one[0], 3, one[1], 0)), 3, 6, 7, 8);
        }
        Scene empty = ROWS.then("no items").does(x -> x.sheet(2, 2, 0), x -> x.sheet(3, 2, 0));
        empty.answers("none of none", 1, x -> x.copy(2, 0, 3, 0, 0));
        empty.finds("one of none", INDEX, 2, x -> x.copy(2, 0, 3, 0, 1));
    }

    /** "Right answers .. come to a SHEET from item 0 on (NONE: none is) .. how many. BAD; NULL." */
    private static void promise51() {
        ROWS.range("sheet", 0, 5, 3, 3, n -> x -> x.write(n));
        TOWN.finds("a lost one", NULL, 1, x -> x.write(3));
        TOWN.refuses("BAD ahead of NULL", BAD, x -> x.write(4));
        Scene s = ROWS.then("laws").laws("q0=99;q2=0;q4=5").does(x -> x.write(2));
        row(s, 2, 99, NONE, 0, NONE, 5);
        row(s, 3, 6, 7, 8);
        Scene bytes = ROWS.then("laws").laws("q0=99;q2=0;q4=5").does(x -> x.write(0));
        int[] want = {99, NONE, 0, NONE, 5};
        for (int i = 0; i < 5; i++) {
            int item = i;
            bytes.answers("a byte", want[item], x -> x.get(0, 0, item));
        }
    }

    /** "as many as there are items, 20 at most" */
    private static void promise51AsManyAsThereAre() {
        int[] items = {0, 1, 19, 20, 21, 40};
        for (int many : items) {
            Scene s = NEW.then(many + " items").laws("q0=4;q18=5;q19=6").does(x -> x.sheet(0, 2, many))
                    .times(many, i -> x -> x.lay(0, 2, i, 77));
            s.answers("written", Math.min(20, many), x -> x.write(0));
            Scene behind = s.then("written").does(x -> x.write(0));
            if (many > 0) {
                behind.answers("the first", 4, x -> x.get(0, 2, 0));
                behind.answers("the last", many == 1 ? 4 : many == 19 ? 5 : many == 20 ? 6 : 77,
                        x -> x.get(0, 2, many - 1));
            }
            if (many > 20) {
                behind.answers("the 20th", 6, x -> x.get(0, 2, 19));
                behind.answers("the 21st stays", 77, x -> x.get(0, 2, 20));
            }
        }
    }

    private static void promise51ByLawAtTheDay() {
        Scene s = ROWS.then("on day 2, a law from day 3").laws("q0=4;q1=5@3").does(x -> x.write(2));
        row(s, 2, 4, NONE, NONE, NONE, NONE);
        row(s.then("a day on").does(x -> x.pass(1), x -> x.write(2)), 2, 4, 5, NONE, NONE, NONE);
        row(ROWS.then("no law").does(x -> x.wipe(), x -> x.write(3)), 3, NONE, NONE, NONE);
        Scene form = s.then("handed in").does(x -> x.form(0, 2));
        form.answers("all right answers", 1, x -> x.formIs(6, 3));
        form.answers("empty where none is right", 19, x -> x.formIs(6, 4));
    }
}
