import java.util.ArrayList;
import java.util.Arrays;
import java.util.Comparator;
import java.util.List;
import java.util.regex.Matcher;
import java.util.regex.Pattern;

/**
 * The document once more, word for word and without any care for speed: every answer is found by
 * going through all that there is. RandomRunsTest holds FilledRoll against it.
 */
final class PlainRoll {
    static final int NONE = -1, BAD = -2, NOT = -3, FULL = -4;
    private static final int OFF = 0, ON = 1, STRUCK = 2, GONE = 3;
    private static final Pattern TEXT = Pattern.compile(
            "(?:(?:q[0-9]{1,2}|[nsw])=[0-9]{1,2}|k=[0-9])(?:@[0-9]{1,3})?"
            + "(?:;(?:(?:q[0-9]{1,2}|[nsw])=[0-9]{1,2}|k=[0-9])(?:@[0-9]{1,3})?)*");
    private static final Pattern NUMBER = Pattern.compile("[0-9]+");
    private static final Pattern PART = Pattern.compile("([a-z])([0-9]*)=([0-9]+)(?:@([0-9]+))?");

    static final class Person implements Cloneable {
        int beat, sort, schooling, fear, owner, state, harsh;

        @Override
        public Person clone() {
            Person p = new Person();
            p.beat = beat;
            p.sort = sort;
            p.schooling = schooling;
            p.fear = fear;
            p.owner = owner;
            p.state = state;
            p.harsh = harsh;
            return p;
        }
    }

    static final class Form {
        int person, day, schooling, readDay = NONE, clerk = NONE, reason = NONE;
        int[] answers = new int[20];
        boolean passed;
    }

    record Part(int kind, int says, int from) { }

    record Choice(boolean ride, int which, int price) { }

    record Standing(int person, int minute) { }

    private int day, asOf = NONE, finding;
    private List<Person> persons = new ArrayList<>();
    private final StringBuilder text = new StringBuilder();
    private String studied;
    private int faultNow;
    private final List<Part> parts = new ArrayList<>();
    private final List<Form> forms = new ArrayList<>();
    private final int[][] minutes = {{20, 20}, {20, 20}, {20, 20}, {20, 20}};
    private final int[] orders = {NONE, NONE, NONE, NONE};
    private int openDays = 1, opening = 540, closing = 1020;
    private final List<Standing> line = new ArrayList<>();
    private final List<int[]> lists = new ArrayList<>();
    private final List<Choice> choices = new ArrayList<>();
    private final int[] sheetType = {NONE, NONE, NONE, NONE};
    private final int[][] sheets = new int[4][];

    private static boolean in(int n, int a, int b) {
        return a <= n && n <= b;
    }

    private boolean isPerson(int p) {
        return in(p, 0, persons.size() - 1);
    }

    private static boolean isOut(Person p) {
        return p.state == OFF || p.state == STRUCK;
    }

    int pass(int n) {
        if (!in(n, 1, 100) || day + n > 399) {
            return BAD;
        }
        return day += n;
    }

    int person(int beat, int sort, int schooling, int fear, int owner) {
        if (!in(beat, 0, 5) || !in(sort, 0, 1) || !in(schooling, 0, 20) || !in(fear, 0, 9)
                || !in(owner, NONE, persons.size() - 1)) {
            return BAD;
        }
        if (persons.size() == 48) {
            return FULL;
        }
        Person p = new Person();
        p.beat = beat;
        p.sort = sort;
        p.schooling = schooling;
        p.fear = fear;
        p.owner = owner;
        persons.add(p);
        return persons.size() - 1;
    }

    int about(int person, int what) {
        if (!isPerson(person) || !in(what, 0, 7)) {
            return BAD;
        }
        Person p = persons.get(person);
        int known = 0;
        for (int f = 0; f < forms.size(); f++) {
            if (forms.get(f).person == person && known(f)) {
                known++;
            }
        }
        return new int[] {p.beat, p.sort, p.schooling, p.fear, p.owner, p.state, p.harsh, known}[what];
    }

    int put(int person, int state) {
        if (!isPerson(person) || !in(state, 2, 4)) {
            return BAD;
        }
        Person p = persons.get(person);
        int was = p.state;
        if (was >= GONE || state == STRUCK && was != ON) {
            return NOT;
        }
        p.state = state;
        if (state != STRUCK) {
            p.beat = NONE;
        }
        return was;
    }

    int move(int person, int beat) {
        if (!isPerson(person) || !in(beat, 0, 5) || persons.get(person).beat == beat) {
            return BAD;
        }
        if (persons.get(person).state >= GONE) {
            return NOT;
        }
        int was = persons.get(person).beat;
        persons.get(person).beat = beat;
        return was;
    }

    int harsh(int person, int h) {
        if (!isPerson(person) || !in(h, 0, 9)) {
            return BAD;
        }
        int was = persons.get(person).harsh;
        persons.get(person).harsh = h;
        return was;
    }

    int roll(int beat, int sort, int state) {
        if (!in(beat, NONE, 5) || !in(sort, NONE, 1) || !in(state, 0, 2)) {
            return BAD;
        }
        return (int) persons.stream().filter(p -> p.state == state && (beat == NONE || p.beat == beat)
                && (sort == NONE || p.sort == sort)).count();
    }

    // ---- laws

    int type(int b) {
        if (!in(b, 0, 255)) {
            return BAD;
        }
        if (text.length() == 200) {
            return FULL;
        }
        text.append((char) b);
        return text.length();
    }

    int wipe() {
        int was = text.length();
        text.setLength(0);
        return was;
    }

    int fault() {
        study();
        return faultNow;
    }

    /** Takes the text apart when it is another one than the last time. */
    private void study() {
        if (text.toString().equals(studied)) {
            return;
        }
        studied = text.toString();
        faultNow = findFault();
        parts.clear();
        for (String part : faultNow == NONE ? studied.split(";") : new String[0]) {
            Matcher m = PART.matcher(part);
            if (!m.matches()) {
                throw new IllegalStateException(part);
            }
            int kind = m.group(1).equals("q") ? Integer.parseInt(m.group(2)) : 20 + "nksw".indexOf(m.group(1));
            int from = m.group(4) == null ? 0 : Integer.parseInt(m.group(4));
            parts.add(new Part(kind, Integer.parseInt(m.group(3)), from));
        }
    }

    private int findFault() {
        int place = brokenPlace();
        Matcher m = NUMBER.matcher(text.substring(0, place == NONE ? text.length() : place));
        while (m.find()) {
            char before = text.charAt(m.start() - 1);
            char kind = m.start() > 1 ? text.charAt(m.start() - 2) : ' ';
            int n = Integer.parseInt(m.group());
            boolean may = switch (before) {
                case 'q' -> n <= 19;
                case '@' -> n <= 399;
                default -> kind != 'k' || in(n, 1, 3);
            };
            if (!may) {
                return m.start();
            }
        }
        return place;
    }

    /** Where the text stops to be the beginning of one that is well formed but for its numbers. */
    private int brokenPlace() {
        for (int n = 0; n < text.length(); n++) {
            Matcher m = TEXT.matcher(text.substring(0, n + 1));
            if (!m.matches() && !m.hitEnd()) {
                return n;
            }
        }
        return TEXT.matcher(text).matches() ? NONE : text.length();
    }

    int why(int what, int on) {
        if (!in(what, 0, 23) || !in(on, 0, 399)) {
            return BAD;
        }
        return part(what, on, true);
    }

    /** The number of the part that is so, or what it says; NONE. */
    private int part(int what, int on, boolean number) {
        int found = NONE;
        study();
        for (int i = 0; i < parts.size(); i++) {
            Part part = parts.get(i);
            if (part.kind == what && part.from <= on) {
                found = number ? i : part.says;
            }
        }
        return found;
    }

    int right(int question, int on) {
        return in(question, 0, 19) && in(on, 0, 399) ? part(question, on, false) : BAD;
    }

    int law(int what, int on) {
        if (!in(what, 0, 3) || !in(on, 0, 399)) {
            return BAD;
        }
        int says = part(20 + what, on, false);
        return says == NONE ? new int[] {1, 3, 0, 99}[what] : says;
    }

    private boolean allowed(Person p, int on) {
        return (law(1, on) & (p.sort == 0 ? 1 : 2)) != 0;
    }

    private int answersAsked(int on) {
        int many = 0;
        for (int q = 0; q < 20; q++) {
            if (right(q, on) != NONE) {
                many++;
            }
        }
        return many;
    }

    // ---- forms

    private int told() {
        return asOf == NONE ? day : asOf;
    }

    private boolean known(int form) {
        return forms.get(form).day <= told();
    }

    private boolean isRead(Form f, int as) {
        return f.readDay != NONE && f.readDay <= as;
    }

    int form(int person, int s) {
        if (!isPerson(person) || !in(s, 0, 3)) {
            return BAD;
        }
        if (sheets[s] == null) {
            return found(1);
        }
        if (!isOut(persons.get(person))) {
            return NOT;
        }
        if (forms.size() == 60) {
            return FULL;
        }
        Form f = new Form();
        f.person = person;
        f.day = day;
        f.schooling = persons.get(person).schooling;
        Arrays.fill(f.answers, NONE);
        for (int q = 0; q < 20 && q < sheets[s].length; q++) {
            if (in(sheets[s][q], 0, 99)) {
                f.answers[q] = sheets[s][q];
            }
        }
        forms.add(f);
        return forms.size() - 1;
    }

    private int rightOnes(Form f) {
        int many = 0;
        for (int q = 0; q < 20; q++) {
            if (f.answers[q] != NONE && f.answers[q] == right(q, f.day)) {
                many++;
            }
        }
        return many;
    }

    private boolean byText(Form f) {
        return allowed(persons.get(f.person), f.day) && f.schooling >= law(2, f.day)
                && rightOnes(f) >= law(0, f.day);
    }

    private boolean late(Form f, int as) {
        int until = isRead(f, as) ? f.readDay : as;
        return until - f.day > law(3, until);
    }

    private boolean isTrue(Form f, int reason, int as) {
        return switch (reason) {
            case 0 -> !allowed(persons.get(f.person), f.day);
            case 1 -> f.schooling < law(2, f.day);
            case 2 -> rightOnes(f) < law(0, f.day);
            case 3 -> late(f, as);
            default -> false;
        };
    }

    int read(int form, int clerk, boolean passed, int reason) {
        if (!in(form, 0, forms.size() - 1) || !in(clerk, 0, 3) || !passed && !in(reason, 0, 4)) {
            return BAD;
        }
        Form f = forms.get(form);
        if (f.readDay != NONE || !passed && orders[clerk] != NONE && day >= orders[clerk] && byText(f)) {
            return NOT;
        }
        f.readDay = day;
        f.clerk = clerk;
        f.passed = passed;
        f.reason = passed ? NONE : reason;
        Person p = persons.get(f.person);
        if (passed && isOut(p)) {
            p.state = ON;
        }
        return 1;
    }

    int formIs(int form, int what) {
        if (!in(form, 0, forms.size() - 1) || !in(what, 0, 11)) {
            return BAD;
        }
        if (!known(form)) {
            return NOT;
        }
        Form f = forms.get(form);
        boolean read = isRead(f, told());
        int bits = 0;
        for (int reason = 0; reason < 4; reason++) {
            bits += isTrue(f, reason, told()) ? 1 << reason : 0;
        }
        return switch (what) {
            case 0 -> f.person;
            case 1 -> f.day;
            case 2 -> f.schooling;
            case 3 -> rightOnes(f);
            case 4 -> (int) Arrays.stream(f.answers).filter(a -> a == NONE).count();
            case 5 -> byText(f) ? 1 : 0;
            case 6 -> read ? f.readDay : NONE;
            case 7 -> read ? f.clerk : NONE;
            case 8 -> read ? f.passed ? 1 : 2 : 0;
            case 9 -> read ? f.reason : NONE;
            case 10 -> bits;
            default -> late(f, told()) ? 1 : 0;
        };
    }

    int answer(int form, int question) {
        if (!in(form, 0, forms.size() - 1) || !in(question, 0, 19)) {
            return BAD;
        }
        return known(form) ? forms.get(form).answers[question] : NOT;
    }

    int parted(int sort, int what) {
        if (!in(sort, NONE, 1) || !in(what, 0, 2)) {
            return BAD;
        }
        return (int) forms.stream().filter(f -> isRead(f, told()))
                .filter(f -> sort == NONE || persons.get(f.person).sort == sort)
                .filter(f -> switch (what) {
                    case 0 -> f.passed && !byText(f);
                    case 1 -> !f.passed && byText(f);
                    default -> !f.passed && !isTrue(f, f.reason, told());
                }).count();
    }

    int asOf(int on) {
        if (!in(on, NONE, day)) {
            return BAD;
        }
        int was = asOf;
        asOf = on;
        return was;
    }

    // ---- habits, lines

    private List<Integer> readBy(int clerk) {
        List<Integer> all = new ArrayList<>();
        for (int f = 0; f < forms.size(); f++) {
            if (isRead(forms.get(f), told()) && forms.get(f).clerk == clerk) {
                all.add(f);
            }
        }
        return all;
    }

    private List<Integer> fitting(int clerk) {
        List<Integer> fit = new ArrayList<>();
        List<Integer> read = readBy(clerk);
        int[] rights = forms.stream().mapToInt(this::rightOnes).toArray();
        for (int a = 0; a <= 21; a++) {
            for (int b = 0; b <= 21; b++) {
                boolean fits = true;
                for (int f : read) {
                    int asked = persons.get(forms.get(f).person).sort == 0 ? a : b;
                    fits &= forms.get(f).passed == rights[f] >= asked;
                }
                if (fits) {
                    fit.add(100 * a + b);
                }
            }
        }
        return fit;
    }

    int rules(int clerk) {
        return in(clerk, 0, 3) ? fitting(clerk).size() : BAD;
    }

    int rule(int clerk, int i) {
        if (!in(clerk, 0, 3) || i < 0) {
            return BAD;
        }
        List<Integer> fit = fitting(clerk);
        return i < fit.size() ? fit.get(i) : NONE;
    }

    private List<Integer> pairs(int clerk) {
        List<Integer> all = new ArrayList<>();
        int[] rights = forms.stream().mapToInt(this::rightOnes).toArray();
        for (int p : readBy(clerk)) {
            for (int r : readBy(clerk)) {
                Form yes = forms.get(p);
                Form no = forms.get(r);
                if (yes.passed && !no.passed && rights[r] >= rights[p]
                        && persons.get(yes.person).sort != persons.get(no.person).sort) {
                    all.add(100 * p + r);
                }
            }
        }
        return all;
    }

    int unlike(int clerk) {
        return in(clerk, 0, 3) ? pairs(clerk).size() : BAD;
    }

    int proves(int clerk) {
        if (!in(clerk, 0, 3)) {
            return BAD;
        }
        List<Integer> all = pairs(clerk);
        return all.isEmpty() ? NONE : all.get(0);
    }

    int minutes(int clerk, int sort, int m) {
        if (!in(clerk, 0, 3) || !in(sort, 0, 1) || !in(m, 1, 120)) {
            return BAD;
        }
        int was = minutes[clerk][sort];
        minutes[clerk][sort] = m;
        return was;
    }

    int office(int days, int from, int to) {
        if (!in(days, 0, 127) || !in(from, 0, 1439) || !in(to, 0, 1439) || from >= to) {
            return BAD;
        }
        openDays = days;
        opening = from;
        closing = to;
        return 1;
    }

    int stand(int person, int minute) {
        if (!isPerson(person) || !in(minute, 0, 1439) || line.stream().anyMatch(l -> l.person == person)) {
            return BAD;
        }
        if (line.size() == 24) {
            return FULL;
        }
        line.add(new Standing(person, minute));
        return line.size();
    }

    int leave() {
        int was = line.size();
        line.clear();
        return was;
    }

    /** Who is seen, with the minute: 10000 times the person and the minute. */
    private List<Integer> seen(int clerk, int on) {
        List<Integer> all = new ArrayList<>();
        if ((openDays & 1 << on % 7) == 0) {
            return all;
        }
        List<Standing> order = new ArrayList<>(line);
        order.sort(Comparator.comparingInt(Standing::minute));
        int done = opening;
        for (Standing one : order) {
            int begun = Math.max(Math.max(one.minute, opening), done);
            done = begun + minutes[clerk][persons.get(one.person).sort];
            if (done > closing) {
                break;
            }
            all.add(10000 * one.person + begun);
        }
        return all;
    }

    int sees(int clerk, int on) {
        return in(clerk, 0, 3) && in(on, 0, 399) ? seen(clerk, on).size() : BAD;
    }

    int begun(int clerk, int on, int person) {
        if (!in(clerk, 0, 3) || !in(on, 0, 399) || line.stream().noneMatch(l -> l.person == person)) {
            return BAD;
        }
        for (int one : seen(clerk, on)) {
            if (one / 10000 == person) {
                return one % 10000;
            }
        }
        return NONE;
    }

    // ---- classes, lists

    private int lesson(int beat) {
        int gaining = 0;
        for (Person p : persons) {
            if (p.beat == beat && isOut(p) && allowed(p, day) && p.schooling < 20) {
                p.schooling = Math.min(20, p.schooling + 2);
                gaining++;
            }
        }
        return gaining;
    }

    int teach(int beat) {
        return in(beat, 0, 5) ? lesson(beat) : BAD;
    }

    int ready(int beat) {
        if (!in(beat, NONE, 5)) {
            return BAD;
        }
        return (int) persons.stream().filter(p -> isOut(p) && (beat == NONE || p.beat == beat)
                && allowed(p, day) && p.schooling >= law(2, day)).count();
    }

    private List<Person> keep() {
        List<Person> kept = persons;
        persons = new ArrayList<>();
        kept.forEach(p -> persons.add(p.clone()));
        return kept;
    }

    private int[] shares;
    private int[] bestShares;
    private int bestReady;

    int helpers(int h, int beat) {
        if (!in(h, 0, 12) || !in(beat, NONE, 5)) {
            return BAD;
        }
        int[][] ready = new int[6][13];
        for (int b = 0; b < 6; b++) {
            List<Person> kept = keep();
            for (int n = 0; n <= h; n++) {
                ready[b][n] = ready(b);
                lesson(b);
            }
            persons = kept;
        }
        shares = new int[6];
        bestShares = null;
        // By fewest lessons, then by most for beat 0, ..: the first with the most ready ones is it.
        for (int all = 0; all <= h; all++) {
            share(0, all, ready);
        }
        return beat == NONE ? bestReady : bestShares[beat];
    }

    private void share(int beat, int left, int[][] ready) {
        if (beat == 5) {
            shares[5] = left;
            int sum = 0;
            for (int b = 0; b < 6; b++) {
                sum += ready[b][shares[b]];
            }
            if (bestShares == null || sum > bestReady) {
                bestReady = sum;
                bestShares = shares.clone();
            }
            return;
        }
        for (int here = left; here >= 0; here--) {
            shares[beat] = here;
            share(beat + 1, left - here, ready);
        }
    }

    int list() {
        if (lists.size() == 30) {
            return FULL;
        }
        int on = roll(NONE, NONE, ON);
        int[] goneIn = new int[6];
        List<Person> losing = new ArrayList<>();
        for (Person p : persons) {
            if (p.state == ON && p.owner != NONE && p.fear < persons.get(p.owner).harsh) {
                losing.add(p);
            }
        }
        for (Person p : losing) {
            goneIn[p.beat]++;
            p.state = GONE;
            p.beat = NONE;
        }
        int struck = 0;
        for (Person p : persons) {
            if (p.state == ON && goneIn[p.beat] > 0 && p.fear + goneIn[p.beat] >= 10) {
                p.state = STRUCK;
                struck++;
            }
        }
        for (Person p : persons) {
            if (p.beat != NONE && goneIn[p.beat] > 0) {
                p.fear = Math.min(9, p.fear + 1);
            }
        }
        lists.add(new int[] {day, on, losing.size(), struck});
        return losing.size();
    }

    int listIs(int list, int what) {
        return in(list, 0, lists.size() - 1) && in(what, 0, 3) ? lists.get(list)[what] : BAD;
    }

    // ---- suits, numbers, votes

    int ripe(int needs, int from, int to) {
        if (!in(needs, 1, 30) || !in(from, 0, 399) || !in(to, from, 399)) {
            return BAD;
        }
        for (int as = 0; as <= told(); as++) {
            int have = 0;
            for (Form f : forms) {
                if (isRead(f, as) && !f.passed && in(f.day, from, to)
                        && persons.get(f.person).sort == 1 && byText(f)) {
                    have++;
                }
            }
            if (have >= needs) {
                return as;
            }
        }
        return NONE;
    }

    int order(int clerk, int on) {
        if (!in(clerk, 0, 3) || !in(on, NONE, 399)) {
            return BAD;
        }
        int was = orders[clerk];
        orders[clerk] = on;
        return was;
    }

    int number(int p, int census, int error, int on) {
        if (!in(p, 1, 100) || !in(census, 1, 1000) || !in(error, 0, 100) || error >= census
                || !in(on, 0, 399)) {
            return BAD;
        }
        boolean asked = law(2, on) > 0 || answersAsked(on) > 0;
        int falls = 0;
        for (int grown = census - error; grown <= census + error; grown++) {
            if (asked && 100 * roll(NONE, NONE, ON) < p * grown) {
                falls++;
            }
        }
        return falls == 2 * error + 1 ? 2 : falls > 0 ? 1 : 0;
    }

    private static int more(int zeros, int ones) {
        return zeros > ones ? 0 : ones > zeros ? 1 : NONE;
    }

    int chosen(int beat) {
        return in(beat, 0, 5) ? more(roll(beat, 0, ON), roll(beat, 1, ON)) : BAD;
    }

    private int out(int beat, int sort) {
        return roll(beat, sort, OFF) + roll(beat, sort, STRUCK);
    }

    int changed(int beat) {
        if (!in(beat, 0, 5)) {
            return BAD;
        }
        int now = chosen(beat);
        int fewest = NONE;
        for (int a = 0; a <= out(beat, 0); a++) {
            for (int b = 0; b <= out(beat, 1); b++) {
                int then = more(roll(beat, 0, ON) + a, roll(beat, 1, ON) + b);
                if (then != NONE && then != now && (fewest == NONE || a + b < fewest)) {
                    fewest = a + b;
                }
            }
        }
        return fewest;
    }

    int wins(int beats) {
        if (!in(beats, 0, 6)) {
            return BAD;
        }
        // The most beats that so many persons win: over the beats, by all numbers of both sorts.
        int[] most = new int[49];
        for (int beat = 0; beat < 6; beat++) {
            int[] next = new int[49];
            for (int used = 0; used <= 48; used++) {
                for (int a = 0; a <= out(beat, 0); a++) {
                    for (int b = 0; b <= out(beat, 1) && used + a + b <= 48; b++) {
                        int won = more(roll(beat, 0, ON) + a, roll(beat, 1, ON) + b) == 1 ? 1 : 0;
                        next[used + a + b] = Math.max(next[used + a + b], most[used] + won);
                    }
                }
            }
            most = next;
        }
        for (int used = 0; used <= 48; used++) {
            if (most[used] >= beats) {
                return used;
            }
        }
        return NONE;
    }

    // ---- a summer

    int choice(boolean ride, int which, int price) {
        if (!in(which, 0, ride ? persons.size() - 1 : 5) || !in(price, 0, 100)) {
            return BAD;
        }
        if (choices.size() == 8) {
            return FULL;
        }
        choices.add(new Choice(ride, which, price));
        return choices.size();
    }

    int drop() {
        int was = choices.size();
        choices.clear();
        return was;
    }

    private int[] summer(int bits) {
        List<Person> kept = keep();
        int on = 0;
        int price = 0;
        for (int i = 0; i < choices.size(); i++) {
            Choice c = choices.get(i);
            if ((bits & 1 << i) == 0) {
                continue;
            }
            price += c.price;
            if (!c.ride) {
                lesson(c.which);
                continue;
            }
            Person p = persons.get(c.which);
            if (isOut(p) && allowed(p, day) && p.schooling >= law(2, day)
                    && answersAsked(day) >= law(0, day)) {
                p.state = ON;
                on++;
            }
        }
        int ready = ready(NONE);
        persons = kept;
        return new int[] {on, ready, price};
    }

    int judge(int bits, int what) {
        return in(bits, 0, (1 << choices.size()) - 1) && in(what, 0, 2) ? summer(bits)[what] : BAD;
    }

    int best(int price) {
        if (!in(price, 0, 1000)) {
            return BAD;
        }
        int best = NONE;
        int[] bestIs = null;
        for (int bits = 0; bits < 1 << choices.size(); bits++) {
            int[] s = summer(bits);
            int[] is = {-s[0], -s[1], s[2], Integer.bitCount(bits), bits};
            if (s[2] <= price && (bestIs == null || Arrays.compare(is, bestIs) < 0)) {
                best = bits;
                bestIs = is;
            }
        }
        return best;
    }

    // ---- sheets

    private int found(int number) {
        finding = number;
        return -10 - number;
    }

    int sheet(int s, int type, int n) {
        if (!in(s, 0, 3) || !in(type, 0, 2) || n > 40) {
            return BAD;
        }
        if (n < 0) {
            return found(5);
        }
        sheetType[s] = type;
        sheets[s] = new int[n];
        return n;
    }

    int lose(int s) {
        if (!in(s, 0, 3)) {
            return BAD;
        }
        if (sheets[s] == null) {
            return found(1);
        }
        int was = sheets[s].length;
        sheets[s] = null;
        return was;
    }

    private int refused(int s, int type, int i) {
        if (!in(s, 0, 3) || !in(type, 0, 2)) {
            return BAD;
        }
        if (sheets[s] == null) {
            return found(1);
        }
        if (sheetType[s] != type) {
            return found(3);
        }
        return in(i, 0, sheets[s].length - 1) ? 1 : found(2);
    }

    private void lay(int s, int i, int v) {
        sheets[s][i] = sheetType[s] == 0 ? (byte) v : sheetType[s] == 1 ? (short) v : v;
    }

    int lay(int s, int type, int i, int v) {
        int may = refused(s, type, i);
        if (may == 1) {
            lay(s, i, v);
        }
        return may;
    }

    int get(int s, int type, int i) {
        return refused(s, type, i) == 1 ? sheets[s][i] : Integer.MIN_VALUE;
    }

    int copy(int s, int i, int t, int j, int n) {
        if (!in(s, 0, 3) || !in(t, 0, 3)) {
            return BAD;
        }
        if (sheets[s] == null || sheets[t] == null) {
            return found(1);
        }
        if (sheetType[s] != sheetType[t]) {
            return found(4);
        }
        if (i < 0 || j < 0 || n < 0 || (long) i + n > sheets[s].length || (long) j + n > sheets[t].length) {
            return found(2);
        }
        int[] were = sheets[s].clone();
        for (int k = 0; k < n; k++) {
            sheets[t][j + k] = were[i + k];
        }
        return 1;
    }

    int write(int s) {
        if (!in(s, 0, 3)) {
            return BAD;
        }
        if (sheets[s] == null) {
            return found(1);
        }
        int many = 0;
        for (int q = 0; q < 20 && q < sheets[s].length; q++) {
            lay(s, q, right(q, day));
            many++;
        }
        return many;
    }

    int count(int what) {
        int known = 0;
        int read = 0;
        for (int f = 0; f < forms.size(); f++) {
            known += known(f) ? 1 : 0;
            read += isRead(forms.get(f), told()) ? 1 : 0;
        }
        int[] all = {day, persons.size(), roll(NONE, NONE, ON), known, read, lists.size(), line.size(),
            choices.size(), text.length(), finding};
        return in(what, 0, 9) ? all[what] : BAD;
    }

    long digest() {
        List<Integer> all = new ArrayList<>();
        for (int what = 0; what <= 8; what++) {
            all.add(count(what));
        }
        for (int p = 0; p < persons.size(); p++) {
            for (int what = 0; what <= 6; what++) {
                all.add(about(p, what));
            }
        }
        for (int f = 0; f < forms.size(); f++) {
            for (int what : new int[] {3, 5, 8, 10}) {
                all.add(known(f) ? formIs(f, what) : -3);
            }
        }
        for (int clerk = 0; clerk < 4; clerk++) {
            all.add(rules(clerk));
            all.add(unlike(clerk));
        }
        all.add(fault());
        all.add(ready(NONE));
        for (int beat = 0; beat < 6; beat++) {
            all.add(chosen(beat));
        }
        int[] every = summer((1 << choices.size()) - 1);
        all.add(every[0]);
        all.add(every[1]);
        long h = 17;
        for (int one : all) {
            h = 31 * h + one;
        }
        return h;
    }
}
