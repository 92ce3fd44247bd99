/** Promises 52 and 53: count, digest. */
final class CountDigestTest {
    private static final int NONE = -1, BAD = -2;
    private static final Check CHECK = new Check("CountDigestTest");

    private CountDigestTest() {
    }

    public static void main(String[] args) {
        count();
        digest();
        CHECK.end();
    }

    private static FilledRoll busy() {
        FilledRoll x = new FilledRoll();
        for (int i = 0; i < 5; i++) {
            x.person(i, i % 2, 4 * i, i, i - 1);
        }
        Check.laws(x, "n=1;q0=3;s=5");
        Check.ints(x, 0, 3);
        for (int i = 0; i < 4; i++) {
            x.form(i, 0);
        }
        x.read(1, 1, false, 2);
        x.read(2, 1, true, 0);
        x.read(3, 2, true, 0);
        x.pass(9);
        x.form(1, 0);
        x.list();
        x.list();
        x.stand(4, 5);
        x.choice(true, 4, 6);
        x.choice(false, 4, 6);
        x.choice(false, 0, 6);
        x.lose(3);
        return x;
    }

    private static void count() {
        FilledRoll x = busy();
        int[] want = {9, 5, 2, 5, 3, 2, 1, 3, 12, 1};
        for (int what = 0; what < 10; what++) {
            CHECK.due("count " + what, want[what], x.count(what));
        }
        x.asOf(8);
        CHECK.due("forms known", 4, x.count(3));
        CHECK.due("10", BAD, x.count(10));
        CHECK.due("-1", BAD, x.count(-1));
    }

    private static long sum(FilledRoll x, int forms) {
        long h = 17;
        for (int what = 0; what <= 8; what++) {
            h = 31 * h + x.count(what);
        }
        for (int person = 0; person < x.count(1); person++) {
            for (int what = 0; what <= 6; what++) {
                h = 31 * h + x.about(person, what);
            }
        }
        for (int form = 0; form < forms; form++) {
            for (int what : new int[] {3, 5, 8, 10}) {
                h = 31 * h + x.formIs(form, what);
            }
        }
        for (int clerk = 0; clerk < 4; clerk++) {
            h = 31 * h + x.rules(clerk);
            h = 31 * h + x.unlike(clerk);
        }
        h = 31 * h + x.fault();
        h = 31 * h + x.ready(NONE);
        for (int beat = 0; beat < 6; beat++) {
            h = 31 * h + x.chosen(beat);
        }
        int all = (1 << x.count(7)) - 1;
        h = 31 * h + x.judge(all, 0);
        return 31 * h + x.judge(all, 1);
    }

    private static void digest() {
        FilledRoll x = new FilledRoll();
        CHECK.due("new", sum(x, 0), x.digest());
        x = busy();
        long busy = x.digest();
        CHECK.due("busy", sum(x, 5), busy);
        CHECK.due("with an unlike pair", 1, x.unlike(1));
        CHECK.due("the same again", busy, x.digest());
        x.lose(3);
        CHECK.due("findings do not count", busy, x.digest());
        x.asOf(8);
        CHECK.due("a form that is not known", sum(x, 5), x.digest());
        CHECK.holds("another", busy != x.digest());
        x.asOf(NONE);
        CHECK.due("as before", busy, x.digest());
        x.drop();
        CHECK.due("no choices", sum(x, 5), x.digest());
    }
}
