import java.util.Random;

/**
 * Holds FilledRoll against PlainRoll, the document once more without any care for speed, through
 * many runs of 512 calls whose numbers are drawn from a fixed seed, good ones and bad ones.
 */
final class RandomRunsTest {
    private static final int RUNS = 300, CALLS = 512;
    private static final Check CHECK = new Check("RandomRunsTest");

    private final FilledRoll x = new FilledRoll();
    private final PlainRoll y = new PlainRoll();
    private final Random random;
    private final int run;
    private int calls;

    private RandomRunsTest(int run) {
        this.run = run;
        random = new Random(run);
    }

    public static void main(String[] args) {
        for (int run = 0; run < RUNS; run++) {
            new RandomRunsTest(run).go();
        }
        CHECK.end();
    }

    private int from(int a, int b) {
        return a + random.nextInt(b - a + 1);
    }

    private boolean rarely() {
        return random.nextInt(25) == 0;
    }

    /** A number from a to b, but now and then one beside them. */
    private int about(int a, int b) {
        if (!rarely()) {
            return from(a, b);
        }
        int[] odd = {a - 1, b + 1, a - 2, b + 2, Integer.MIN_VALUE, Integer.MAX_VALUE, from(-50, 500)};
        return odd[random.nextInt(odd.length)];
    }

    private int orNone(int a, int b) {
        return random.nextInt(3) == 0 ? -1 : about(a, b);
    }

    private int person() {
        return about(0, Math.max(0, y.count(1) - 1));
    }

    private int day() {
        return random.nextBoolean() ? y.count(0) : about(0, random.nextBoolean() ? 20 : 399);
    }

    private void same(String call, long want, long got) {
        calls++;
        CHECK.due("run " + run + ", call " + calls + ": " + call, want, got);
    }

    private void go() {
        int settlers = from(0, 48);
        int beats = from(0, 5);
        for (int i = 0; i < settlers; i++) {
            settle(beats);
        }
        speak(from(0, 8));
        // One act is five calls at most.
        while (calls + 5 <= CALLS) {
            act();
        }
        while (calls < CALLS) {
            same("digest", y.digest(), x.digest());
        }
    }

    private void settle(int beats) {
        int beat = about(0, beats);
        int sort = about(0, 1);
        int schooling = about(0, 20);
        int fear = about(0, 9);
        int owner = random.nextBoolean() ? -1 : random.nextBoolean() ? 0 : about(0, Math.max(0, y.count(1) - 1));
        same("person " + beat + " " + sort + " " + schooling + " " + fear + " " + owner,
                y.person(beat, sort, schooling, fear, owner), x.person(beat, sort, schooling, fear, owner));
    }

    private void speak(int parts) {
        if (random.nextInt(3) > 0 || y.fault() > 0) {
            same("wipe", y.wipe(), x.wipe());
        } else if (y.count(8) > 0) {
            type(';');
        }
        StringBuilder text = new StringBuilder();
        for (int i = 0; i < parts; i++) {
            text.append(i > 0 ? ";" : "").append(part());
        }
        if (random.nextInt(6) == 0 && text.length() > 0) {
            int place = random.nextInt(text.length());
            char sign = random.nextBoolean() ? "0123456789=;@qnksw".charAt(random.nextInt(18))
                    : (char) random.nextInt(256);
            text.setCharAt(place, sign);
        }
        for (int i = 0; i < text.length() && calls + 2 <= CALLS; i++) {
            type(text.charAt(i));
        }
    }

    private void type(int b) {
        same("type " + b, y.type(b), x.type(b));
        if (random.nextInt(8) == 0) {
            same("fault", y.fault(), x.fault());
        }
    }

    private String part() {
        String number = switch (random.nextInt(8)) {
            case 0 -> "n=" + (rarely() ? from(0, 99) : from(0, 4));
            case 1 -> "k=" + (rarely() ? from(0, 9) : from(1, 3));
            case 2 -> "s=" + (rarely() ? from(0, 99) : from(0, 18));
            case 3 -> "w=" + (rarely() ? from(0, 99) : from(0, 6));
            default -> "q" + (rarely() ? from(0, 22) : from(0, 6)) + "=" + (rarely() ? from(0, 99) : from(0, 3));
        };
        return random.nextInt(3) > 0 ? number : number + "@" + (rarely() ? from(0, 500) : from(0, 12));
    }

    private void act() {
        switch (random.nextInt(12)) {
            case 0 -> county();
            case 1 -> laws();
            case 2, 3, 4 -> forms();
            case 5 -> habits();
            case 6 -> lines();
            case 7 -> classes();
            case 8 -> suits();
            case 9 -> summer();
            default -> sheets();
        }
    }

    private void county() {
        int p = person();
        int n = about(0, 5);
        switch (random.nextInt(9)) {
            case 0 -> {
                int by = random.nextInt(4) == 0 ? about(1, 100) : from(1, 3);
                same("pass " + by, y.pass(by), x.pass(by));
            }
            case 1 -> settle(5);
            case 2, 3 -> {
                int what = about(0, 7);
                same("about " + p + " " + what, y.about(p, what), x.about(p, what));
            }
            case 4 -> {
                int state = random.nextInt(3) > 0 ? 2 : about(2, 4);
                same("put " + p + " " + state, y.put(p, state), x.put(p, state));
            }
            case 5 -> same("move " + p + " " + n, y.move(p, n), x.move(p, n));
            case 6, 7 -> {
                int h = about(0, 9);
                int owner = random.nextBoolean() ? 0 : p;
                same("harsh " + owner + " " + h, y.harsh(owner, h), x.harsh(owner, h));
            }
            default -> {
                int beat = orNone(0, 5);
                int sort = orNone(0, 1);
                int state = about(0, 2);
                same("roll " + beat + " " + sort + " " + state, y.roll(beat, sort, state), x.roll(beat, sort, state));
            }
        }
    }

    private void laws() {
        int on = day();
        switch (random.nextInt(6)) {
            case 0 -> {
                if (random.nextInt(6) == 0) {
                    speak(from(0, 9));
                }
            }
            case 1 -> {
                int question = about(0, 19);
                same("right " + question + " " + on, y.right(question, on), x.right(question, on));
            }
            case 2 -> {
                int what = about(0, 3);
                same("law " + what + " " + on, y.law(what, on), x.law(what, on));
            }
            case 3 -> {
                int what = about(0, 23);
                same("why " + what + " " + on, y.why(what, on), x.why(what, on));
            }
            case 4 -> {
                if (rarely()) {
                    type(about(0, 255));
                }
            }
            default -> same("fault", y.fault(), x.fault());
        }
    }

    private void forms() {
        int f = about(0, Math.max(0, y.count(3) - 1));
        switch (random.nextInt(9)) {
            case 0, 1 -> {
                int p = person();
                int s = about(0, 3);
                same("form " + p + " " + s, y.form(p, s), x.form(p, s));
            }
            case 2, 3, 4 -> {
                int clerk = random.nextBoolean() ? 0 : about(0, 3);
                boolean passed = random.nextInt(3) == 0;
                int reason = about(0, 4);
                same("read " + f + " " + clerk + " " + passed + " " + reason,
                        y.read(f, clerk, passed, reason), x.read(f, clerk, passed, reason));
            }
            case 5, 6 -> {
                int what = about(0, 11);
                same("formIs " + f + " " + what, y.formIs(f, what), x.formIs(f, what));
            }
            case 7 -> {
                int question = about(0, 19);
                same("answer " + f + " " + question, y.answer(f, question), x.answer(f, question));
            }
            default -> {
                int sort = orNone(0, 1);
                int what = about(0, 2);
                same("parted " + sort + " " + what, y.parted(sort, what), x.parted(sort, what));
                int on = random.nextInt(3) > 0 ? -1 : about(0, y.count(0));
                same("asOf " + on, y.asOf(on), x.asOf(on));
            }
        }
    }

    private void habits() {
        int clerk = random.nextBoolean() ? 0 : about(0, 3);
        switch (random.nextInt(4)) {
            case 0 -> same("rules " + clerk, y.rules(clerk), x.rules(clerk));
            case 1 -> {
                int all = Math.max(0, y.rules(clerk));
                int i = about(0, all);
                same("rule " + clerk + " " + i, y.rule(clerk, i), x.rule(clerk, i));
            }
            case 2 -> same("unlike " + clerk, y.unlike(clerk), x.unlike(clerk));
            default -> same("proves " + clerk, y.proves(clerk), x.proves(clerk));
        }
    }

    private void lines() {
        int clerk = about(0, 3);
        int p = person();
        switch (random.nextInt(10)) {
            case 0 -> {
                int sort = about(0, 1);
                int m = about(1, 120);
                same("minutes " + clerk + " " + sort + " " + m, y.minutes(clerk, sort, m), x.minutes(clerk, sort, m));
            }
            case 1 -> {
                int days = about(0, 127);
                int a = about(0, 1439);
                int b = rarely() ? a : about(a < 0 || a > 1400 ? 0 : a, 1439);
                same("office " + days + " " + a + " " + b, y.office(days, a, b), x.office(days, a, b));
            }
            case 2, 3, 4, 5 -> {
                int minute = random.nextBoolean() ? 60 * from(0, 23) : about(0, 1439);
                same("stand " + p + " " + minute, y.stand(p, minute), x.stand(p, minute));
            }
            case 6 -> {
                if (rarely()) {
                    same("leave", y.leave(), x.leave());
                }
            }
            case 7 -> {
                int on = day();
                same("sees " + clerk + " " + on, y.sees(clerk, on), x.sees(clerk, on));
            }
            default -> {
                int on = day();
                same("begun " + clerk + " " + on + " " + p, y.begun(clerk, on, p), x.begun(clerk, on, p));
            }
        }
    }

    private void classes() {
        int beat = orNone(0, 5);
        switch (random.nextInt(8)) {
            case 0 -> {
                int b = about(0, 5);
                same("teach " + b, y.teach(b), x.teach(b));
            }
            case 1 -> same("ready " + beat, y.ready(beat), x.ready(beat));
            case 2, 3, 4 -> {
                int h = about(0, 12);
                same("helpers " + h + " " + beat, y.helpers(h, beat), x.helpers(h, beat));
            }
            case 5 -> {
                int l = about(0, Math.max(0, y.count(5) - 1));
                int what = about(0, 3);
                same("listIs " + l + " " + what, y.listIs(l, what), x.listIs(l, what));
            }
            default -> {
                same("list", y.list(), x.list());
                int last = y.count(5) - 1;
                for (int what = 0; what < 4; what++) {
                    same("listIs last", y.listIs(last, what), x.listIs(last, what));
                }
            }
        }
    }

    private void suits() {
        switch (random.nextInt(7)) {
            case 0 -> {
                int needs = random.nextBoolean() ? 1 : about(1, 5);
                int a = random.nextBoolean() ? 0 : day();
                int b = random.nextBoolean() ? 399 : day();
                same("ripe " + needs + " " + a + " " + b, y.ripe(needs, a, b), x.ripe(needs, a, b));
            }
            case 1 -> {
                int clerk = about(0, 3);
                int on = random.nextBoolean() ? -1 : day();
                same("order " + clerk + " " + on, y.order(clerk, on), x.order(clerk, on));
            }
            case 2, 3 -> {
                int p = about(1, 100);
                int census = random.nextBoolean() ? about(1, 60) : about(1, 1000);
                int error = random.nextBoolean() ? about(0, 10) : about(0, 100);
                int on = day();
                same("number " + p + " " + census + " " + error + " " + on,
                        y.number(p, census, error, on), x.number(p, census, error, on));
            }
            case 4 -> {
                int beat = about(0, 5);
                same("chosen " + beat, y.chosen(beat), x.chosen(beat));
            }
            case 5 -> {
                int beat = about(0, 5);
                same("changed " + beat, y.changed(beat), x.changed(beat));
            }
            default -> {
                int w = about(0, 6);
                same("wins " + w, y.wins(w), x.wins(w));
            }
        }
    }

    private void summer() {
        int all = (1 << y.count(7)) - 1;
        switch (random.nextInt(6)) {
            case 0, 1, 2 -> {
                boolean ride = random.nextBoolean();
                int which = ride ? person() : about(0, 5);
                int price = about(0, rarely() ? 100 : 8);
                same("choice " + ride + " " + which + " " + price, y.choice(ride, which, price),
                        x.choice(ride, which, price));
            }
            case 3 -> {
                int bits = about(0, all);
                int what = about(0, 2);
                same("judge " + bits + " " + what, y.judge(bits, what), x.judge(bits, what));
            }
            case 4 -> {
                int price = random.nextBoolean() ? about(0, 40) : about(0, 1000);
                same("best " + price, y.best(price), x.best(price));
            }
            default -> {
                if (rarely()) {
                    same("drop", y.drop(), x.drop());
                }
                same("digest", y.digest(), x.digest());
            }
        }
    }

    private void sheets() {
        int s = random.nextBoolean() ? 0 : about(0, 3);
        int type = random.nextInt(3) > 0 ? 0 : about(0, 2);
        int i = about(0, random.nextBoolean() ? 6 : 40);
        switch (random.nextInt(12)) {
            case 0, 1 -> {
                int n = about(0, 40);
                same("sheet " + s + " " + type + " " + n, y.sheet(s, type, n), x.sheet(s, type, n));
            }
            case 2 -> {
                if (rarely()) {
                    same("lose " + s, y.lose(s), x.lose(s));
                }
            }
            case 3, 4, 5, 6 -> {
                int v = rarely() ? random.nextInt() : rarely() ? about(0, 99) : from(0, 3);
                same("lay " + s + " " + type + " " + i + " " + v, y.lay(s, type, i, v), x.lay(s, type, i, v));
            }
            case 7 -> same("get " + s + " " + type + " " + i, y.get(s, type, i), x.get(s, type, i));
            case 8 -> {
                int t = random.nextBoolean() ? s : about(0, 3);
                int j = about(0, 20);
                int n = about(0, 20);
                same("copy " + s + " " + i + " " + t + " " + j + " " + n, y.copy(s, i, t, j, n),
                        x.copy(s, i, t, j, n));
            }
            case 9, 10 -> same("write " + s, y.write(s), x.write(s));
            default -> {
                int what = about(0, 9);
                same("count " + what, y.count(what), x.count(what));
            }
        }
    }
}
