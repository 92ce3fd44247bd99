import java.math.BigInteger;
import java.util.ArrayList;
import java.util.List;

/** The edges of promises 52 and 53, and of the 512 calls that an object is used for. */
final class EdgesCountsTest {
    private static final int NONE = -1, BAD = -2, NOT = -3, FULL = -4;
    private static final Check CHECK = new Check("EdgesCountsTest");
    private static final Scene NEW = new Scene(CHECK, "new");
    private static final Scene TOWN = Scene.town(CHECK);

    private EdgesCountsTest() {
    }

    public static void main(String[] args) {
        promise52();
        promise52FormsThatAreKnown();
        promise52FindingsAlone();
        promise53();
        promise53NotKnown();
        promise53Wraps();
        promise53OfEachPart();
        the512thCall();
        CHECK.end();
    }

    /** "0 the DAY .. 9 the number of the latest FINDING (0 before any). BAD." */
    private static void promise52() {
        TOWN.range("what", 0, 2, 9, 5, n -> x -> x.count(n));
        NEW.range("what", 0, 0, 9, 0, n -> x -> x.count(n));
        int[] town = {2, 8, 1, 6, 3, 1, 2, 2, 25, 5};
        for (int i = 0; i < 10; i++) {
            int what = i;
            TOWN.answers("count " + what, town[what], x -> x.count(what));
        }
    }

    /** "3 FORMS that are known, 4 those known to be READ" */
    private static void promise52FormsThatAreKnown() {
        for (int day = 0; day <= 2; day++) {
            int as = day;
            Scene s = TOWN.then("as of " + day).does(x -> x.asOf(as));
            s.answers("known", day < 2 ? 5 : 6, x -> x.count(3));
            s.answers("known to be READ", 3, x -> x.count(4));
        }
        Scene read = TOWN.then("read today, as of yesterday").does(x -> x.read(0, 0, true, 0), x -> x.asOf(1));
        read.answers("known to be READ", 3, x -> x.count(4));
        read.answers("those ON", 2, x -> x.count(2));
    }

    /** BAD, NOT and FULL are no FINDINGS. */
    private static void promise52FindingsAlone() {
        Scene s = NEW.then("one person, ON, and 30 lists").does(x -> x.person(0, 0, 0, 0, NONE), x -> x.sheet(0, 0, 0),
                x -> x.form(0, 0), x -> x.read(0, 0, true, 0)).times(30, i -> x -> x.list());
        s.then("BAD").does(x -> x.pass(0)).answers("none", 0, x -> x.count(9));
        s.then("NOT").does(x -> x.form(0, 0)).answers("none", 0, x -> x.count(9));
        s.then("FULL").does(x -> x.list()).answers("none", 0, x -> x.count(9));
        s.then("a BAD get").does(x -> x.get(4, 0, 0)).answers("none", 0, x -> x.count(9));
        s.then("a get beyond").does(x -> x.get(0, 0, 0)).answers("INDEX", 2, x -> x.count(9));
        s.then("then BAD").does(x -> x.get(0, 0, 0), x -> x.pass(0)).answers("INDEX", 2, x -> x.count(9));
    }

    /** All that the digest is made of, in its order. */
    private static List<Long> parts(Scene s, int forms) {
        List<Scene.Call> asked = new ArrayList<>();
        for (int i = 0; i <= 8; i++) {
            int what = i;
            asked.add(x -> x.count(what));
        }
        FilledRoll x0 = s.play();
        int persons = x0.count(1);
        int all = (1 << x0.count(7)) - 1;
        for (int i = 0; i < 7 * persons; i++) {
            int person = i / 7;
            int what = i % 7;
            asked.add(x -> x.about(person, what));
        }
        for (int i = 0; i < 4 * forms; i++) {
            int form = i / 4;
            int what = new int[] {3, 5, 8, 10}[i % 4];
            asked.add(x -> x.formIs(form, what));
        }
        for (int i = 0; i < 4; i++) {
            int clerk = i;
            asked.add(x -> x.rules(clerk));
            asked.add(x -> x.unlike(clerk));
        }
        asked.add(x -> x.fault());
        asked.add(x -> x.ready(NONE));
        for (int i = 0; i < 6; i++) {
            int beat = i;
            asked.add(x -> x.chosen(beat));
        }
        asked.add(x -> x.judge(all, 0));
        asked.add(x -> x.judge(all, 1));
        List<Long> answers = new ArrayList<>();
        for (Scene.Call call : asked) {
            answers.add(call.on(s.play()));
        }
        return answers;
    }

    /** "h is 17; h becomes 31 h and each of", reckoned without any bound. */
    private static BigInteger sum(List<Long> parts) {
        BigInteger h = BigInteger.valueOf(17);
        for (long part : parts) {
            h = h.multiply(BigInteger.valueOf(31)).add(BigInteger.valueOf(part));
        }
        return h;
    }

    private static Scene crowd() {
        return new Scene(CHECK, "all full").times(48, i -> x -> x.person(i % 6, i / 6 % 2, i % 21, i % 10, i - 1))
                .types("n=0;s=2;q0=0;w=3").does(x -> x.sheet(0, 0, 1)).times(60, i -> x -> x.form(i % 48, 0))
                .times(30, i -> x -> x.read(2 * i, i % 4, i % 3 == 0, i % 5)).times(24, i -> x -> x.stand(i, 60 * i))
                .times(8, i -> x -> x.choice(i % 2 == 0, i % 6, i)).times(30, i -> x -> x.list());
    }

    private static void promise53() {
        for (Scene s : new Scene[] {NEW, TOWN, crowd(), crowd().then("a fault").types(";")}) {
            int forms = s.play().count(3);
            s.answers("digest", sum(parts(s, forms)).longValue(), x -> x.digest());
        }
        CHECK.due("forms of the crowd", 60, crowd().play().count(3));
        CHECK.due("persons of the crowd", 48, crowd().play().count(1));
    }

    /** "(-3 each: not known)" */
    private static void promise53NotKnown() {
        Scene s = TOWN.then("as of 1").does(x -> x.asOf(1));
        List<Long> parts = parts(s, 6);
        int form5 = 9 + 7 * 8 + 4 * 5;
        for (int i = 0; i < 4; i++) {
            CHECK.due("not known", NOT, parts.get(form5 + i));
        }
        s.answers("digest", sum(parts).longValue(), x -> x.digest());
        TOWN.answers("another", 0, x -> x.digest() == sum(parts).longValue() ? 1 : 0);
    }

    /** "as longs that wrap" */
    private static void promise53Wraps() {
        BigInteger town = sum(parts(TOWN, 6));
        CHECK.holds("more than a long can hold", town.bitLength() > 64);
        TOWN.answers("its lowest bits", town.longValue(), x -> x.digest());
        BigInteger none = sum(parts(NEW, 0));
        CHECK.holds("of a new one, too", none.bitLength() > 64);
        NEW.answers("its lowest bits", none.longValue(), x -> x.digest());
    }

    /** Any of what it is made of makes another one of it; what it is not made of does not. */
    private static void promise53OfEachPart() {
        long digest = TOWN.play().digest();
        Scene.Call[] changes = {x -> x.pass(1), x -> x.person(0, 0, 0, 0, NONE), x -> x.move(0, 1), x -> x.harsh(0, 4),
            x -> x.put(5, 2), x -> x.put(0, 4), x -> x.read(0, 0, false, 0), x -> x.read(0, 0, true, 0), x -> x.form(0, 0),
            x -> x.asOf(0), x -> x.list(), x -> x.stand(2, 0), x -> x.leave(), x -> x.choice(false, 0, 0),
            x -> x.drop(), x -> x.type(';'), x -> x.wipe(), x -> x.teach(0)};
        for (int i = 0; i < changes.length; i++) {
            Scene s = TOWN.then("change " + i).does(changes[i]);
            s.answers("another digest", 0, x -> x.digest() == digest ? 1 : 0);
        }
        Scene.Call[] others = {x -> x.lose(0), x -> x.lose(3), x -> x.minutes(0, 0, 1), x -> x.office(1, 0, 1),
            x -> x.order(0, 0), x -> x.pass(0), x -> x.asOf(2), x -> x.sheet(3, 0, 5), x -> x.write(0), x -> x.best(9)};
        for (int i = 0; i < others.length; i++) {
            TOWN.then("no change " + i).does(others[i]).answers("the same", digest, x -> x.digest());
        }
    }

    /** "An object is used for at most 512 calls after it has been made" */
    private static void the512thCall() {
        Scene days = NEW.then("511 calls").times(399, i -> x -> x.pass(1)).times(112, i -> x -> x.pass(1));
        days.answers("the 512th", 399, x -> x.count(0));
        days.answers("the 512th", BAD, x -> x.pass(1));
        Scene full = crowd().then("511 calls").times(511 - 217, i -> x -> x.type(' '));
        full.answers("bytes", 200, x -> x.count(8));
        full.answers("a byte more", FULL, x -> x.type(' '));
        full.answers("a form more", FULL, x -> x.form(47, 0));
    }
}
