/** Promises 46 to 51: sheet, lose, lay, get, copy, write. */
final class SheetsTest {
    private static final int NONE = -1, BAD = -2;
    private static final int NULL = -11, INDEX = -12, CAST = -13, STORE = -14, SIZE = -15;
    private static final int LEAST = Integer.MIN_VALUE, MOST = Integer.MAX_VALUE;
    private static final Check CHECK = new Check("SheetsTest");

    private SheetsTest() {
    }

    public static void main(String[] args) {
        sheet();
        lose();
        lay();
        get();
        copy();
        copyRefused();
        write();
        CHECK.end();
    }

    private static void sheet() {
        FilledRoll x = new FilledRoll();
        CHECK.due("sheet 4", BAD, x.sheet(4, 0, 1));
        CHECK.due("sheet -1", BAD, x.sheet(-1, 0, 1));
        CHECK.due("type 3", BAD, x.sheet(0, 3, 1));
        CHECK.due("type -1", BAD, x.sheet(0, -1, 1));
        CHECK.due("41", BAD, x.sheet(0, 0, 41));
        CHECK.due("most", BAD, x.sheet(0, 0, MOST));
        CHECK.due("BAD ahead of SIZE", BAD, x.sheet(4, 0, -1));
        CHECK.due("no finding", 0, x.count(9));
        CHECK.due("-1", SIZE, x.sheet(0, 0, -1));
        CHECK.due("finding", 5, x.count(9));
        CHECK.due("least", SIZE, x.sheet(3, 2, LEAST));
        CHECK.due("still lost", NULL, x.lose(0));
        CHECK.due("0", 0, x.sheet(0, 0, 0));
        CHECK.due("40", 40, x.sheet(1, 2, 40));
        x.lay(1, 2, 39, 7);
        x.lay(1, 2, 0, 8);
        CHECK.due("refused: as it was", SIZE, x.sheet(1, 0, -5));
        CHECK.due("as it was", 7, x.get(1, 2, 39));
        CHECK.due("a new row", 40, x.sheet(1, 2, 40));
        CHECK.due("of 0s", 0, x.get(1, 2, 39));
        CHECK.due("of 0s, the first", 0, x.get(1, 2, 0));
        CHECK.due("of another type", 3, x.sheet(1, 1, 3));
        CHECK.due("no fourth item", INDEX, x.lay(1, 1, 3, 1));
    }

    private static void lose() {
        FilledRoll x = new FilledRoll();
        x.sheet(2, 1, 7);
        CHECK.due("items", 7, x.lose(2));
        CHECK.due("lost", NULL, x.lose(2));
        CHECK.due("finding", 1, x.count(9));
        CHECK.due("sheet 4", BAD, x.lose(4));
        CHECK.due("sheet -1", BAD, x.lose(-1));
        x.sheet(3, 0, 0);
        CHECK.due("a row without items is not lost", 0, x.lose(3));
    }

    private static void laid(FilledRoll x, int s, int type, int v, int want) {
        CHECK.due("lay", 1, x.lay(s, type, 0, v));
        CHECK.due(v + " as of type " + type, want, x.get(s, type, 0));
    }

    private static void lay() {
        FilledRoll x = new FilledRoll();
        for (int type = 0; type < 3; type++) {
            x.sheet(type, type, 2);
        }
        laid(x, 0, 0, 127, 127);
        laid(x, 0, 0, 128, -128);
        laid(x, 0, 0, 255, -1);
        laid(x, 0, 0, 256, 0);
        laid(x, 0, 0, -129, 127);
        laid(x, 1, 1, 32767, 32767);
        laid(x, 1, 1, 32768, -32768);
        laid(x, 1, 1, 65536 + 5, 5);
        laid(x, 2, 2, MOST, MOST);
        laid(x, 2, 2, LEAST, LEAST);
        CHECK.due("sheet 4", BAD, x.lay(4, 0, 0, 0));
        CHECK.due("sheet -1", BAD, x.lay(-1, 0, 0, 0));
        CHECK.due("type 3", BAD, x.lay(0, 3, 0, 0));
        CHECK.due("type -1", BAD, x.lay(0, -1, 0, 0));
        CHECK.due("no finding", 0, x.count(9));
        CHECK.due("BAD ahead of NULL", BAD, x.lay(3, 3, 0, 0));
        CHECK.due("lost", NULL, x.lay(3, 0, 0, 0));
        CHECK.due("finding", 1, x.count(9));
        CHECK.due("another type", CAST, x.lay(0, 1, 0, 0));
        CHECK.due("finding", 3, x.count(9));
        CHECK.due("CAST ahead of INDEX", CAST, x.lay(0, 2, 5, 0));
        CHECK.due("item 2", INDEX, x.lay(0, 0, 2, 0));
        CHECK.due("finding", 2, x.count(9));
        CHECK.due("item -1", INDEX, x.lay(0, 0, -1, 0));
        CHECK.due("item most", INDEX, x.lay(0, 0, MOST, 0));
        CHECK.due("item least", INDEX, x.lay(0, 0, LEAST, 0));
    }

    private static void get() {
        FilledRoll x = new FilledRoll();
        x.sheet(1, 1, 2);
        x.lay(1, 1, 1, 9);
        CHECK.due("item", 9, x.get(1, 1, 1));
        CHECK.due("item at first", 0, x.get(1, 1, 0));
        CHECK.due("sheet 4", LEAST, x.get(4, 1, 1));
        CHECK.due("sheet -1", LEAST, x.get(-1, 1, 1));
        CHECK.due("type 3", LEAST, x.get(1, 3, 1));
        CHECK.due("no finding", 0, x.count(9));
        CHECK.due("lost", LEAST, x.get(0, 1, 1));
        CHECK.due("finding", 1, x.count(9));
        CHECK.due("another type", LEAST, x.get(1, 0, 7));
        CHECK.due("finding", 3, x.count(9));
        CHECK.due("item 2", LEAST, x.get(1, 1, 2));
        CHECK.due("finding", 2, x.count(9));
        CHECK.due("item -1", LEAST, x.get(1, 1, -1));
        x.get(1, 1, 1);
        CHECK.due("the latest finding stays", 2, x.count(9));
    }

    private static void items(FilledRoll x, int s, String when, int... want) {
        for (int i = 0; i < want.length; i++) {
            CHECK.due(when + ": item " + i, want[i], x.get(s, 2, i));
        }
    }

    private static void copy() {
        FilledRoll x = new FilledRoll();
        Check.ints(x, 0, 1, 2, 3, 4, 5);
        Check.ints(x, 1, 6, 7, 8);
        CHECK.due("to another", 1, x.copy(0, 2, 1, 1, 2));
        items(x, 1, "to another", 6, 3, 4);
        items(x, 0, "from it", 1, 2, 3, 4, 5);
        CHECK.due("to itself, behind", 1, x.copy(0, 0, 0, 1, 4));
        items(x, 0, "to itself, behind", 1, 1, 2, 3, 4);
        CHECK.due("to itself, ahead", 1, x.copy(0, 1, 0, 0, 4));
        items(x, 0, "to itself, ahead", 1, 2, 3, 4, 4);
        CHECK.due("none, at the end", 1, x.copy(0, 5, 1, 3, 0));
        items(x, 1, "none", 6, 3, 4);
        CHECK.due("no finding", 0, x.count(9));
    }

    private static void copyRefused() {
        FilledRoll x = new FilledRoll();
        Check.ints(x, 0, 1, 2, 3, 4, 5);
        Check.ints(x, 1, 6, 7, 8);
        x.sheet(2, 1, 5);
        CHECK.due("sheet 4", BAD, x.copy(4, 0, 0, 0, 0));
        CHECK.due("to sheet 4", BAD, x.copy(0, 0, 4, 0, 0));
        CHECK.due("sheet -1", BAD, x.copy(-1, 0, 0, 0, 0));
        CHECK.due("to sheet -1", BAD, x.copy(3, 0, -1, 0, 0));
        CHECK.due("lost", NULL, x.copy(3, 0, 0, 0, 0));
        CHECK.due("to one lost", NULL, x.copy(0, 0, 3, 0, 0));
        CHECK.due("finding", 1, x.count(9));
        CHECK.due("another type", STORE, x.copy(0, 0, 2, 0, 1));
        CHECK.due("STORE ahead of INDEX", STORE, x.copy(0, -1, 2, 0, 1));
        CHECK.due("STORE of none too", STORE, x.copy(0, 0, 2, 0, 0));
        CHECK.due("finding", 4, x.count(9));
        CHECK.due("from -1", INDEX, x.copy(0, -1, 1, 0, 1));
        CHECK.due("to -1", INDEX, x.copy(0, 0, 1, -1, 1));
        CHECK.due("-1 items", INDEX, x.copy(0, 1, 1, 1, -1));
        CHECK.due("not so many", INDEX, x.copy(0, 4, 1, 0, 2));
        CHECK.due("not so many there", INDEX, x.copy(0, 0, 1, 2, 2));
        CHECK.due("from behind the end", INDEX, x.copy(0, 6, 1, 0, 0));
        CHECK.due("to behind the end", INDEX, x.copy(0, 0, 1, 4, 0));
        CHECK.due("most", INDEX, x.copy(0, MOST, 1, MOST, MOST));
        CHECK.due("1 and most", INDEX, x.copy(0, 1, 1, 1, MOST));
        CHECK.due("least", INDEX, x.copy(0, LEAST, 1, LEAST, LEAST));
        CHECK.due("finding", 2, x.count(9));
        items(x, 0, "unchanged", 1, 2, 3, 4, 5);
        items(x, 1, "unchanged", 6, 7, 8);
    }

    private static void write() {
        FilledRoll x = new FilledRoll();
        CHECK.due("sheet 4", BAD, x.write(4));
        CHECK.due("sheet -1", BAD, x.write(-1));
        CHECK.due("lost", NULL, x.write(0));
        CHECK.due("finding", 1, x.count(9));
        Check.laws(x, "q0=99;q2=5@1;q19=1;q2=4");
        x.sheet(0, 2, 40);
        x.lay(0, 2, 1, 77);
        x.lay(0, 2, 20, 88);
        CHECK.due("20 at most", 20, x.write(0));
        items(x, 0, "written", 99, NONE, 4, NONE);
        CHECK.due("the last", 1, x.get(0, 2, 19));
        CHECK.due("behind it", 88, x.get(0, 2, 20));
        Check.laws(x, "q1=6;q1=7@1");
        x.sheet(1, 0, 2);
        CHECK.due("as many as there are", 2, x.write(1));
        CHECK.due("none is right", NONE, x.get(1, 0, 0));
        CHECK.due("at the day", 6, x.get(1, 0, 1));
        x.pass(1);
        x.write(1);
        CHECK.due("a day later", 7, x.get(1, 0, 1));
        x.sheet(2, 1, 0);
        CHECK.due("no items", 0, x.write(2));
    }
}
