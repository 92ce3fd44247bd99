/**
 * A roll that must be filled: a county's people, its laws as text, forms and the clerks who read
 * them, lines, lessons, lists, suits, votes and a summer's plan. DOC.md tells what each call does.
 */
public final class FilledRoll {
    public static final int NONE = -1, BAD = -2, NOT = -3, FULL = -4;

    private static final int OFF = 0, ON = 1, STRUCK = 2, GONE = 3, DEAD = 4;
    private static final int LAST_DAY = 399, LAST_MINUTE = 1439;
    private static final int BEATS = 6, SORTS = 2, CLERKS = 4, SHEETS = 4, QUESTIONS = 20;
    private static final int MOST_SCHOOLING = 20, MOST_FEAR = 9, MOST_ANSWER = 99;
    private static final int NULL = 1, INDEX = 2, CAST = 3, STORE = 4, SIZE = 5;
    private static final int LEAST_INT = -2147483648;

    private final Days days = new Days();
    private final Law law = new Law();
    private final County county = new County();
    private final Files files = new Files(law, county, days);
    private final Line line = new Line();
    private final Lessons lessons = new Lessons(law, county, days);
    private final Summer summer = new Summer(law, county, days, lessons);
    private final Lists lists = new Lists(county, days);
    private final Sheet[] sheets = new Sheet[SHEETS];
    private int latestFinding;

    public FilledRoll() {
        for (int s = 0; s < SHEETS; s++) {
            sheets[s] = new Sheet();
        }
    }

    // ---- the county

    public int pass(int n) {
        if (!within(n, 1, 100) || days.today + n > LAST_DAY) {
            return BAD;
        }
        days.today += n;
        return days.today;
    }

    public int person(int beat, int sort, int schooling, int fear, int owner) {
        if (!isBeat(beat) || !isSort(sort) || !within(schooling, 0, MOST_SCHOOLING)
                || !within(fear, 0, MOST_FEAR) || owner != NONE && !county.holds(owner)) {
            return BAD;
        }
        if (county.isFull()) {
            return FULL;
        }
        return county.settle(beat, sort, schooling, fear, owner);
    }

    public int about(int person, int what) {
        if (!county.holds(person) || !within(what, 0, 7)) {
            return BAD;
        }
        return what == 7 ? files.knownOf(person) : county.at(person).tell(what);
    }

    public int put(int person, int state) {
        if (!county.holds(person) || !within(state, STRUCK, DEAD)) {
            return BAD;
        }
        Person one = county.at(person);
        if (!one.lives() || state == STRUCK && one.state != ON) {
            return NOT;
        }
        int before = one.state;
        one.become(state);
        return before;
    }

    public int move(int person, int beat) {
        if (!county.holds(person) || !isBeat(beat) || county.at(person).beat == beat) {
            return BAD;
        }
        Person one = county.at(person);
        if (!one.lives()) {
            return NOT;
        }
        int before = one.beat;
        one.beat = beat;
        return before;
    }

    public int harsh(int person, int h) {
        if (!county.holds(person) || !within(h, 0, 9)) {
            return BAD;
        }
        Person one = county.at(person);
        int before = one.harsh;
        one.harsh = h;
        return before;
    }

    public int roll(int beat, int sort, int state) {
        if (beat != NONE && !isBeat(beat) || sort != NONE && !isSort(sort)
                || !within(state, OFF, STRUCK)) {
            return BAD;
        }
        return county.tally(beat, sort, state);
    }

    // ---- laws

    public int type(int b) {
        if (!within(b, 0, 255)) {
            return BAD;
        }
        if (law.isFull()) {
            return FULL;
        }
        int many = law.append(b);
        files.weighAll();
        return many;
    }

    public int wipe() {
        int before = law.clear();
        files.weighAll();
        return before;
    }

    public int fault() {
        return law.faultAt;
    }

    public int right(int question, int day) {
        if (!within(question, 0, QUESTIONS - 1) || !isDay(day)) {
            return BAD;
        }
        return law.saidOf(question, day);
    }

    public int law(int what, int day) {
        if (!within(what, 0, 3) || !isDay(day)) {
            return BAD;
        }
        return law.saidOf(Law.NEEDED + what, day);
    }

    public int why(int what, int day) {
        if (!within(what, 0, Law.KINDS - 1) || !isDay(day)) {
            return BAD;
        }
        return law.partFor(what, day);
    }

    // ---- forms

    public int form(int person, int s) {
        if (!county.holds(person) || !isSheet(s)) {
            return BAD;
        }
        if (sheets[s].isLost()) {
            return found(NULL);
        }
        if (!county.at(person).waits()) {
            return NOT;
        }
        if (files.isFull()) {
            return FULL;
        }
        return files.handIn(person, sheets[s]);
    }

    public int read(int form, int clerk, boolean passed, int reason) {
        if (!files.holds(form) || !isClerk(clerk) || !passed && !within(reason, 0, 4)) {
            return BAD;
        }
        return files.decide(form, clerk, passed, reason);
    }

    public int formIs(int form, int what) {
        if (!files.holds(form) || !within(what, 0, 11)) {
            return BAD;
        }
        if (!files.isKnown(form)) {
            return NOT;
        }
        return files.tell(form, what);
    }

    public int answer(int form, int question) {
        if (!files.holds(form) || !within(question, 0, QUESTIONS - 1)) {
            return BAD;
        }
        if (!files.isKnown(form)) {
            return NOT;
        }
        return files.answerOf(form, question);
    }

    public int parted(int sort, int what) {
        if (sort != NONE && !isSort(sort) || !within(what, 0, 2)) {
            return BAD;
        }
        return files.partedOnes(sort, what);
    }

    public int asOf(int day) {
        if (day != NONE && !within(day, 0, days.today)) {
            return BAD;
        }
        int before = days.asOf;
        days.asOf = day;
        return before;
    }

    // ---- habits, lines

    public int rules(int clerk) {
        return isClerk(clerk) ? files.fittingRules(clerk) : BAD;
    }

    public int rule(int clerk, int i) {
        if (!isClerk(clerk) || i < 0) {
            return BAD;
        }
        return files.fittingRule(clerk, i);
    }

    public int unlike(int clerk) {
        return isClerk(clerk) ? files.unlikePairs(clerk) : BAD;
    }

    public int proves(int clerk) {
        return isClerk(clerk) ? files.firstUnlikePair(clerk) : BAD;
    }

    public int minutes(int clerk, int sort, int m) {
        if (!isClerk(clerk) || !isSort(sort) || !within(m, 1, 120)) {
            return BAD;
        }
        return line.setMinutes(clerk, sort, m);
    }

    public int office(int days, int from, int to) {
        if (!within(days, 0, 127) || !within(from, 0, LAST_MINUTE) || !within(to, 0, LAST_MINUTE)
                || from >= to) {
            return BAD;
        }
        line.setHours(days, from, to);
        return 1;
    }

    public int stand(int person, int minute) {
        if (!county.holds(person) || !within(minute, 0, LAST_MINUTE)
                || line.placeOf(person) != NONE) {
            return BAD;
        }
        if (line.isFull()) {
            return FULL;
        }
        return line.join(person, county.at(person).sort, minute);
    }

    public int leave() {
        return line.empty();
    }

    public int sees(int clerk, int day) {
        if (!isClerk(clerk) || !isDay(day)) {
            return BAD;
        }
        return line.serve(clerk, day);
    }

    public int begun(int clerk, int day, int person) {
        if (!isClerk(clerk) || !isDay(day) || line.placeOf(person) == NONE) {
            return BAD;
        }
        return line.beginOf(clerk, day, person);
    }

    // ---- classes, lists

    public int teach(int beat) {
        return isBeat(beat) ? lessons.give(beat) : BAD;
    }

    public int ready(int beat) {
        return beat == NONE || isBeat(beat) ? lessons.readyIn(beat) : BAD;
    }

    public int helpers(int h, int beat) {
        if (!within(h, 0, Lessons.MOST) || beat != NONE && !isBeat(beat)) {
            return BAD;
        }
        return lessons.share(h, beat);
    }

    public int list() {
        return lists.isFull() ? FULL : lists.print();
    }

    public int listIs(int list, int what) {
        if (!lists.holds(list) || !within(what, 0, 3)) {
            return BAD;
        }
        return lists.tell(list, what);
    }

    // ---- suits, numbers, votes

    public int ripe(int needs, int from, int to) {
        if (!within(needs, 1, 30) || !isDay(from) || !isDay(to) || from > to) {
            return BAD;
        }
        return files.ripeOn(needs, from, to);
    }

    public int order(int clerk, int day) {
        if (!isClerk(clerk) || day != NONE && !isDay(day)) {
            return BAD;
        }
        return files.setOrder(clerk, day);
    }

    public int number(int p, int census, int error, int day) {
        if (!within(p, 1, 100) || !within(census, 1, 1000) || !within(error, 0, 100)
                || error >= census || !isDay(day)) {
            return BAD;
        }
        if (!law.asksSomething(day)) {
            return 0;
        }
        // With more grown persons the share of those ON is less: the two ends tell of all between.
        int on = 100 * county.tally(NONE, NONE, ON);
        if (on < p * (census - error)) {
            return 2;
        }
        return on < p * (census + error) ? 1 : 0;
    }

    public int chosen(int beat) {
        return isBeat(beat) ? county.winner(beat) : BAD;
    }

    public int changed(int beat) {
        return isBeat(beat) ? county.namesToChange(beat) : BAD;
    }

    public int wins(int beats) {
        return within(beats, 0, BEATS) ? county.namesToWin(beats) : BAD;
    }

    // ---- a summer

    public int choice(boolean ride, int which, int price) {
        if (!(ride ? county.holds(which) : isBeat(which)) || !within(price, 0, 100)) {
            return BAD;
        }
        if (summer.isFull()) {
            return FULL;
        }
        return summer.offer(ride, which, price);
    }

    public int drop() {
        return summer.clear();
    }

    public int judge(int bits, int what) {
        if (!within(bits, 0, summer.allBits()) || !within(what, 0, 2)) {
            return BAD;
        }
        return summer.outcome(bits, what);
    }

    public int best(int price) {
        return within(price, 0, 1000) ? summer.bestWithin(price) : BAD;
    }

    // ---- sheets

    public int sheet(int s, int type, int n) {
        if (!isSheet(s) || !isType(type) || n > Sheet.ROOM) {
            return BAD;
        }
        if (n < 0) {
            return found(SIZE);
        }
        sheets[s].renew(type, n);
        return n;
    }

    public int lose(int s) {
        if (!isSheet(s)) {
            return BAD;
        }
        return sheets[s].isLost() ? found(NULL) : sheets[s].vanish();
    }

    public int lay(int s, int type, int i, int v) {
        if (!isSheet(s) || !isType(type)) {
            return BAD;
        }
        int trouble = sheets[s].troubleAt(type, i);
        if (trouble != 0) {
            return found(trouble);
        }
        sheets[s].store(i, v);
        return 1;
    }

    public int get(int s, int type, int i) {
        if (!isSheet(s) || !isType(type)) {
            return LEAST_INT;
        }
        int trouble = sheets[s].troubleAt(type, i);
        if (trouble != 0) {
            found(trouble);
            return LEAST_INT;
        }
        return sheets[s].item(i);
    }

    public int copy(int s, int i, int t, int j, int n) {
        if (!isSheet(s) || !isSheet(t)) {
            return BAD;
        }
        Sheet source = sheets[s];
        Sheet target = sheets[t];
        if (source.isLost() || target.isLost()) {
            return found(NULL);
        }
        if (source.type != target.type) {
            return found(STORE);
        }
        if (!source.hasRange(i, n) || !target.hasRange(j, n)) {
            return found(INDEX);
        }
        System.arraycopy(source.items, i, target.items, j, n);
        return 1;
    }

    public int write(int s) {
        if (!isSheet(s)) {
            return BAD;
        }
        Sheet target = sheets[s];
        if (target.isLost()) {
            return found(NULL);
        }
        int many = Math.min(target.size, QUESTIONS);
        for (int question = 0; question < many; question++) {
            target.store(question, law.saidOf(question, days.today));
        }
        return many;
    }

    public int count(int what) {
        switch (what) {
            case 0: return days.today;
            case 1: return county.size;
            case 2: return county.tally(NONE, NONE, ON);
            case 3: return files.knownOf(NONE);
            case 4: return files.readOnes();
            case 5: return lists.size;
            case 6: return line.size;
            case 7: return summer.size;
            case 8: return law.length;
            case 9: return latestFinding;
            default: return BAD;
        }
    }

    public long digest() {
        long h = 17;
        for (int what = 0; what <= 8; what++) {
            h = 31 * h + count(what);
        }
        for (int person = 0; person < county.size; person++) {
            for (int what = 0; what <= 6; what++) {
                h = 31 * h + about(person, what);
            }
        }
        for (int form = 0; form < files.size; form++) {
            h = 31 * h + formIs(form, 3);
            h = 31 * h + formIs(form, 5);
            h = 31 * h + formIs(form, 8);
            h = 31 * h + formIs(form, 10);
        }
        for (int clerk = 0; clerk < CLERKS; clerk++) {
            h = 31 * h + files.fittingRules(clerk);
            h = 31 * h + files.unlikePairs(clerk);
        }
        h = 31 * h + fault();
        h = 31 * h + ready(NONE);
        for (int beat = 0; beat < BEATS; beat++) {
            h = 31 * h + chosen(beat);
        }
        h = 31 * h + summer.outcome(summer.allBits(), 0);
        return 31 * h + summer.outcome(summer.allBits(), 1);
    }

    /** Takes down a finding; what the call answers. */
    private int found(int number) {
        latestFinding = number;
        return -10 - number;
    }

    private static boolean within(int n, int least, int most) {
        return n >= least && n <= most;
    }

    private static boolean isDay(int day) {
        return within(day, 0, LAST_DAY);
    }

    private static boolean isBeat(int beat) {
        return within(beat, 0, BEATS - 1);
    }

    private static boolean isSort(int sort) {
        return within(sort, 0, SORTS - 1);
    }

    private static boolean isClerk(int clerk) {
        return within(clerk, 0, CLERKS - 1);
    }

    private static boolean isSheet(int s) {
        return within(s, 0, SHEETS - 1);
    }

    private static boolean isType(int type) {
        return within(type, 0, 2);
    }

    /** The day that goes on, and the day as of which forms are told. */
    private static final class Days {
        int today;
        int asOf = NONE;

        int told() {
            return asOf == NONE ? today : asOf;
        }
    }

    /** The text of the laws, and what its parts say on a day. */
    private static final class Law {
        // Kinds of parts are numbered as why() numbers them: a question's own number, then these.
        static final int NEEDED = 20, ALLOWED = 21, SCHOOLING = 22, WAIT = 23, KINDS = 24;
        private static final int ROOM = 200;
        // The shortest part has three bytes and a ; behind it.
        private static final int MOST_PARTS = 50;

        int length;
        // At first the text is empty, which is a fault at its first place.
        int faultAt;
        private final int[] text = new int[ROOM];
        private int place;
        private int parts;
        private final int[] partKind = new int[MOST_PARTS];
        private final int[] partSays = new int[MOST_PARTS];
        private final int[] partFrom = new int[MOST_PARTS];
        // What is so by kind, reckoned for one day and kept while calls ask for that day.
        private final int[] inForce = new int[KINDS];
        private final int[] isSo = new int[KINDS];
        private int reckonedFor = NONE;

        boolean isFull() {
            return length >= ROOM;
        }

        int append(int b) {
            if (length < ROOM) {
                text[length] = b;
                length++;
            }
            parse();
            return length;
        }

        int clear() {
            int before = length;
            length = 0;
            parse();
            return before;
        }

        /** The part in force for a kind on a day; NONE. */
        int partFor(int kind, int day) {
            reckonFor(day);
            return kind >= 0 && kind < KINDS ? inForce[kind] : NONE;
        }

        /** What is so for a kind on a day, by a part or without one. */
        int saidOf(int kind, int day) {
            reckonFor(day);
            return kind >= 0 && kind < KINDS ? isSo[kind] : NONE;
        }

        boolean allows(int sort, int day) {
            return (saidOf(ALLOWED, day) >> sort & 1) != 0;
        }

        boolean makesReady(int sort, int schooling, int day) {
            return allows(sort, day) && schooling >= saidOf(SCHOOLING, day);
        }

        /** The reasons 0 to 2 that are true of one who asks on a day, as bits; 0: it is to be passed. */
        int lacks(int sort, int schooling, int rightOnes, int day) {
            int bits = (saidOf(ALLOWED, day) >> sort & 1) != 0 ? 0 : 1;
            if (schooling < saidOf(SCHOOLING, day)) {
                bits |= 2;
            }
            if (rightOnes < saidOf(NEEDED, day)) {
                bits |= 4;
            }
            return bits;
        }

        /** How many questions have a right answer on a day. */
        int rightAnswers(int day) {
            int many = 0;
            for (int question = 0; question < QUESTIONS; question++) {
                if (partFor(question, day) != NONE) {
                    many++;
                }
            }
            return many;
        }

        boolean asksSomething(int day) {
            return saidOf(SCHOOLING, day) > 0 || rightAnswers(day) > 0;
        }

        private void reckonFor(int day) {
            if (reckonedFor == day) {
                return;
            }
            reckonedFor = day;
            for (int kind = 0; kind < KINDS; kind++) {
                inForce[kind] = NONE;
                isSo[kind] = NONE;
            }
            isSo[NEEDED] = 1;
            isSo[ALLOWED] = 3;
            isSo[SCHOOLING] = 0;
            isSo[WAIT] = 99;
            for (int part = 0; part < parts; part++) {
                if (partFrom[part] <= day) {
                    inForce[partKind[part]] = part;
                    isSo[partKind[part]] = partSays[part];
                }
            }
        }

        private void parse() {
            reckonedFor = NONE;
            parts = 0;
            place = 0;
            faultAt = NONE;
            // One try more than parts there can be: it meets the end behind a last ; in a full text.
            for (int tries = 0; tries <= MOST_PARTS; tries++) {
                if (!takePart() || place >= length || !takeSign(';')) {
                    break;
                }
            }
            if (faultAt != NONE) {
                parts = 0;
            }
        }

        private boolean takePart() {
            int kind = takeKind();
            if (kind == NONE || !takeSign('=')) {
                return false;
            }
            int says = kind == ALLOWED ? takeNumber(1, 1, 3) : takeNumber(2, 0, MOST_ANSWER);
            if (says == NONE) {
                return false;
            }
            int from = 0;
            if (place < length && text[place] == '@') {
                place++;
                from = takeNumber(3, 0, LAST_DAY);
            }
            if (from == NONE) {
                return false;
            }
            keepPart(kind, says, from);
            return true;
        }

        private void keepPart(int kind, int says, int from) {
            if (parts < MOST_PARTS) {
                partKind[parts] = kind;
                partSays[parts] = says;
                partFrom[parts] = from;
                parts++;
            }
        }

        private int takeKind() {
            int sign = place < length ? text[place] : NONE;
            place++;
            switch (sign) {
                case 'q': return takeNumber(2, 0, QUESTIONS - 1);
                case 'n': return NEEDED;
                case 'k': return ALLOWED;
                case 's': return SCHOOLING;
                case 'w': return WAIT;
                default:
                    faultAt = place - 1;
                    return NONE;
            }
        }

        private boolean takeSign(int sign) {
            if (place >= length || text[place] != sign) {
                faultAt = place;
                return false;
            }
            place++;
            return true;
        }

        private int takeNumber(int figures, int least, int most) {
            int first = place;
            int number = 0;
            for (int figure = 0; figure < figures && isFigureNext(); figure++) {
                number = 10 * number + text[place] - '0';
                place++;
            }
            if (place == first || number < least || number > most) {
                faultAt = first;
                return NONE;
            }
            return number;
        }

        private boolean isFigureNext() {
            return place < length && text[place] >= '0' && text[place] <= '9';
        }
    }

    private static final class Person {
        int beat;
        int sort;
        int schooling;
        int fear;
        int owner;
        int state;
        int harsh;

        boolean lives() {
            return state <= STRUCK;
        }

        /** Whether it is OFF or STRUCK. */
        boolean waits() {
            return state == OFF || state == STRUCK;
        }

        void become(int newState) {
            state = newState;
            if (!lives()) {
                beat = NONE;
            }
        }

        int schoolingAfter(int lessons) {
            return Math.min(MOST_SCHOOLING, schooling + 2 * lessons);
        }

        int tell(int what) {
            switch (what) {
                case 0: return beat;
                case 1: return sort;
                case 2: return schooling;
                case 3: return fear;
                case 4: return owner;
                case 5: return state;
                default: return harsh;
            }
        }
    }

    /** The persons, and how their beats would vote. */
    private static final class County {
        private static final int ROOM = 48;

        int size;
        private final Person[] persons = new Person[ROOM];
        private final int[] names = new int[BEATS];

        County() {
            for (int person = 0; person < ROOM; person++) {
                persons[person] = new Person();
            }
        }

        boolean holds(int person) {
            return person >= 0 && person < size;
        }

        boolean isFull() {
            return size >= ROOM;
        }

        /** The row of a person that the county holds. */
        Person at(int person) {
            return persons[person];
        }

        int settle(int beat, int sort, int schooling, int fear, int owner) {
            Person one = persons[size];
            one.beat = beat;
            one.sort = sort;
            one.schooling = schooling;
            one.fear = fear;
            one.owner = owner;
            size++;
            return size - 1;
        }

        /** How many are of a beat, a sort (NONE: any) and in a state. */
        int tally(int beat, int sort, int state) {
            int many = 0;
            for (int person = 0; person < size; person++) {
                Person one = persons[person];
                if (one.state == state && (beat == NONE || one.beat == beat)
                        && (sort == NONE || one.sort == sort)) {
                    many++;
                }
            }
            return many;
        }

        int winner(int beat) {
            int lead = tally(beat, 1, ON) - tally(beat, 0, ON);
            if (lead == 0) {
                return NONE;
            }
            return lead > 0 ? 1 : 0;
        }

        int namesToChange(int beat) {
            int now = winner(beat);
            int fewest = NONE;
            for (int sort = 0; sort < SORTS; sort++) {
                int more = sort == now ? NONE : namesFor(beat, sort);
                if (more != NONE && (fewest == NONE || more < fewest)) {
                    fewest = more;
                }
            }
            return fewest;
        }

        int namesToWin(int beats) {
            int open = 0;
            for (int beat = 0; beat < BEATS; beat++) {
                int more = namesFor(beat, 1);
                if (more != NONE) {
                    keepInOrder(more, open);
                    open++;
                }
            }
            if (open < beats) {
                return NONE;
            }
            int sum = 0;
            for (int i = 0; i < beats; i++) {
                sum += names[i];
            }
            return sum;
        }

        private void keepInOrder(int more, int kept) {
            int place = kept;
            while (place > 0 && names[place - 1] > more) {
                names[place] = names[place - 1];
                place--;
            }
            names[place] = more;
        }

        /** The fewest more names by which a sort is chosen in a beat; NONE: there are not so many. */
        private int namesFor(int beat, int sort) {
            int more = tally(beat, 1 - sort, ON) - tally(beat, sort, ON) + 1;
            if (more <= 0) {
                return 0;
            }
            int waiting = tally(beat, sort, OFF) + tally(beat, sort, STRUCK);
            return more <= waiting ? more : NONE;
        }
    }

    private static final class Form {
        int person;
        int sort;
        int day;
        int schooling;
        final int[] answers = new int[QUESTIONS];
        int readDay;
        int clerk;
        boolean passed;
        int reason;
        // What the laws' text makes of it now.
        int rightOnes;
        int lacks;

        boolean isByText() {
            return lacks == 0;
        }
    }

    /** The forms, what is known of them, the clerks' habits and the orders against them. */
    private static final class Files {
        private static final int ROOM = 60;
        // A rule that asks more right ones than there are questions passes none.
        private static final int MOST_ASKED = QUESTIONS + 1;
        private static final int LATE = 3;

        int size;
        private final Law law;
        private final County county;
        private final Days days;
        private final Form[] forms = new Form[ROOM];
        private final int[] orderFrom = new int[CLERKS];
        private final int[] readOn = new int[LAST_DAY + 1];

        Files(Law law, County county, Days days) {
            this.law = law;
            this.county = county;
            this.days = days;
            for (int form = 0; form < ROOM; form++) {
                forms[form] = new Form();
            }
            for (int clerk = 0; clerk < CLERKS; clerk++) {
                orderFrom[clerk] = NONE;
            }
        }

        boolean holds(int form) {
            return form >= 0 && form < size;
        }

        boolean isFull() {
            return size >= ROOM;
        }

        int handIn(int person, Sheet sheet) {
            Form form = forms[size];
            form.person = person;
            form.sort = county.at(person).sort;
            form.schooling = county.at(person).schooling;
            form.day = days.today;
            form.readDay = NONE;
            form.clerk = NONE;
            form.reason = NONE;
            form.passed = false;
            for (int question = 0; question < QUESTIONS; question++) {
                int item = question < sheet.size ? sheet.item(question) : NONE;
                form.answers[question] = within(item, 0, MOST_ANSWER) ? item : NONE;
            }
            weigh(form);
            size++;
            return size - 1;
        }

        int decide(int number, int clerk, boolean passed, int reason) {
            Form form = forms[number];
            if (form.readDay != NONE || !passed && mustPass(form, clerk)) {
                return NOT;
            }
            form.readDay = days.today;
            form.clerk = clerk;
            form.passed = passed;
            form.reason = passed ? NONE : reason;
            Person one = county.at(form.person);
            if (passed && one.waits()) {
                one.become(ON);
            }
            return 1;
        }

        int setOrder(int clerk, int day) {
            int before = orderFrom[clerk];
            orderFrom[clerk] = day;
            return before;
        }

        private boolean mustPass(Form form, int clerk) {
            return orderFrom[clerk] != NONE && days.today >= orderFrom[clerk] && form.isByText();
        }

        boolean isKnown(int form) {
            return forms[form].day <= days.told();
        }

        private boolean isRead(Form form) {
            return form.readDay != NONE && form.readDay <= days.told();
        }

        /** How many forms of a person (NONE: of all) are known. */
        int knownOf(int person) {
            int many = 0;
            for (int form = 0; form < size; form++) {
                if (isKnown(form) && (person == NONE || forms[form].person == person)) {
                    many++;
                }
            }
            return many;
        }

        int readOnes() {
            int many = 0;
            for (int form = 0; form < size; form++) {
                if (isRead(forms[form])) {
                    many++;
                }
            }
            return many;
        }

        int answerOf(int form, int question) {
            return forms[form].answers[question];
        }

        int tell(int number, int what) {
            Form form = forms[number];
            boolean isRead = isRead(form);
            switch (what) {
                case 0: return form.person;
                case 1: return form.day;
                case 2: return form.schooling;
                case 3: return form.rightOnes;
                case 4: return emptyOnes(form);
                case 5: return form.isByText() ? 1 : 0;
                case 6: return isRead ? form.readDay : NONE;
                case 7: return isRead ? form.clerk : NONE;
                case 8: return outcome(form);
                case 9: return isRead ? form.reason : NONE;
                case 10: return trueReasons(form);
                default: return isLate(form) ? 1 : 0;
            }
        }

        private int outcome(Form form) {
            if (!isRead(form)) {
                return 0;
            }
            return form.passed ? 1 : 2;
        }

        private static int emptyOnes(Form form) {
            int many = 0;
            for (int question = 0; question < QUESTIONS; question++) {
                if (form.answers[question] == NONE) {
                    many++;
                }
            }
            return many;
        }

        /** Reckons for every form what the laws' text makes of it; due when the text has changed. */
        void weighAll() {
            for (int form = 0; form < size; form++) {
                weigh(forms[form]);
            }
        }

        private void weigh(Form form) {
            int right = 0;
            for (int question = 0; question < QUESTIONS; question++) {
                int answer = form.answers[question];
                if (answer != NONE && answer == law.saidOf(question, form.day)) {
                    right++;
                }
            }
            form.rightOnes = right;
            form.lacks = law.lacks(form.sort, form.schooling, right, form.day);
        }

        private boolean isLate(Form form) {
            int until = isRead(form) ? form.readDay : days.told();
            return until - form.day > law.saidOf(Law.WAIT, until);
        }

        private int trueReasons(Form form) {
            return isLate(form) ? form.lacks | 1 << LATE : form.lacks;
        }

        int partedOnes(int sort, int what) {
            int many = 0;
            for (int number = 0; number < size; number++) {
                Form form = forms[number];
                if (isRead(form) && (sort == NONE || form.sort == sort) && isParted(form, what)) {
                    many++;
                }
            }
            return many;
        }

        private boolean isParted(Form form, int what) {
            switch (what) {
                case 0: return form.passed && !form.isByText();
                case 1: return !form.passed && form.isByText();
                default: return !form.passed && (trueReasons(form) >> form.reason & 1) == 0;
            }
        }

        private boolean isReadBy(Form form, int clerk) {
            return isRead(form) && form.clerk == clerk;
        }

        /** The fewest right ones that a fitting rule may ask of a sort. */
        private int leastAsked(int clerk, int sort) {
            int least = 0;
            for (int number = 0; number < size; number++) {
                Form form = forms[number];
                if (isReadBy(form, clerk) && form.sort == sort && !form.passed) {
                    least = Math.max(least, form.rightOnes + 1);
                }
            }
            return least;
        }

        /** The most right ones that a fitting rule may ask of a sort. */
        private int mostAsked(int clerk, int sort) {
            int most = MOST_ASKED;
            for (int number = 0; number < size; number++) {
                Form form = forms[number];
                if (isReadBy(form, clerk) && form.sort == sort && form.passed) {
                    most = Math.min(most, form.rightOnes);
                }
            }
            return most;
        }

        private int waysToAsk(int clerk, int sort) {
            return Math.max(0, mostAsked(clerk, sort) - leastAsked(clerk, sort) + 1);
        }

        int fittingRules(int clerk) {
            return waysToAsk(clerk, 0) * waysToAsk(clerk, 1);
        }

        int fittingRule(int clerk, int i) {
            int ways = waysToAsk(clerk, 1);
            if (ways <= 0 || i >= ways * waysToAsk(clerk, 0)) {
                return NONE;
            }
            return 100 * (leastAsked(clerk, 0) + i / ways) + leastAsked(clerk, 1) + i % ways;
        }

        private boolean isUnlike(Form passed, Form refused, int clerk) {
            return isReadBy(refused, clerk) && !refused.passed && passed.sort != refused.sort
                    && refused.rightOnes >= passed.rightOnes;
        }

        int unlikePairs(int clerk) {
            int many = 0;
            for (int p = 0; p < size; p++) {
                if (!isReadBy(forms[p], clerk) || !forms[p].passed) {
                    continue;
                }
                for (int r = 0; r < size; r++) {
                    if (isUnlike(forms[p], forms[r], clerk)) {
                        many++;
                    }
                }
            }
            return many;
        }

        int firstUnlikePair(int clerk) {
            for (int p = 0; p < size; p++) {
                if (!isReadBy(forms[p], clerk) || !forms[p].passed) {
                    continue;
                }
                for (int r = 0; r < size; r++) {
                    if (isUnlike(forms[p], forms[r], clerk)) {
                        return 100 * p + r;
                    }
                }
            }
            return NONE;
        }

        int ripeOn(int needs, int from, int to) {
            for (int day = 0; day <= LAST_DAY; day++) {
                readOn[day] = 0;
            }
            for (int number = 0; number < size; number++) {
                Form form = forms[number];
                if (isRead(form) && form.sort == 1 && within(form.day, from, to)
                        && isParted(form, 1)) {
                    readOn[form.readDay]++;
                }
            }
            int have = 0;
            for (int day = 0; day <= LAST_DAY; day++) {
                have += readOn[day];
                if (have >= needs) {
                    return day;
                }
            }
            return NONE;
        }
    }

    /** The line before the office, its hours, and the clerks' minutes. */
    private static final class Line {
        private static final int ROOM = 24;

        int size;
        // Kept in the order in which they are seen.
        private final int[] persons = new int[ROOM];
        private final int[] sorts = new int[ROOM];
        private final int[] comes = new int[ROOM];
        private final int[] begins = new int[ROOM];
        private final int[] minutesFor = new int[CLERKS * SORTS];
        private int openDays = 1;
        private int opening = 540;
        private int closing = 1020;

        Line() {
            for (int i = 0; i < CLERKS * SORTS; i++) {
                minutesFor[i] = 20;
            }
        }

        int setMinutes(int clerk, int sort, int minutes) {
            int before = minutesFor[SORTS * clerk + sort];
            minutesFor[SORTS * clerk + sort] = minutes;
            return before;
        }

        void setHours(int bits, int from, int to) {
            openDays = bits;
            opening = from;
            closing = to;
        }

        boolean isFull() {
            return size >= ROOM;
        }

        int placeOf(int person) {
            for (int place = 0; place < size; place++) {
                if (persons[place] == person) {
                    return place;
                }
            }
            return NONE;
        }

        int join(int person, int sort, int minute) {
            int place = size;
            while (place > 0 && comes[place - 1] > minute) {
                persons[place] = persons[place - 1];
                sorts[place] = sorts[place - 1];
                comes[place] = comes[place - 1];
                place--;
            }
            persons[place] = person;
            sorts[place] = sort;
            comes[place] = minute;
            size++;
            return size;
        }

        int empty() {
            int before = size;
            size = 0;
            return before;
        }

        /** How many are seen; when each of them is begun is left in the row of begins. */
        int serve(int clerk, int day) {
            if ((openDays >> day % 7 & 1) == 0) {
                return 0;
            }
            int free = opening;
            for (int place = 0; place < size; place++) {
                begins[place] = Math.max(free, comes[place]);
                free = begins[place] + minutesFor[SORTS * clerk + sorts[place]];
                if (free > closing) {
                    return place;
                }
            }
            return size;
        }

        int beginOf(int clerk, int day, int person) {
            int place = placeOf(person);
            int seen = serve(clerk, day);
            return place >= 0 && place < seen ? begins[place] : NONE;
        }
    }

    /** Lessons in the beats, and how helpers share them out best. */
    private static final class Lessons {
        static final int MOST = 12;

        private final Law law;
        private final County county;
        private final Days days;
        private final int[][] readyAfter = new int[BEATS][MOST + 1];
        private final int[][] mostFrom = new int[BEATS][MOST + 1];

        Lessons(Law law, County county, Days days) {
            this.law = law;
            this.county = county;
            this.days = days;
        }

        int give(int beat) {
            int gaining = 0;
            for (int person = 0; person < county.size; person++) {
                Person one = county.at(person);
                int after = one.schoolingAfter(1);
                if (one.beat == beat && one.waits() && law.allows(one.sort, days.today)
                        && after > one.schooling) {
                    one.schooling = after;
                    gaining++;
                }
            }
            return gaining;
        }

        int readyIn(int beat) {
            int many = 0;
            for (int person = 0; person < county.size; person++) {
                Person one = county.at(person);
                if (one.waits() && (beat == NONE || one.beat == beat)
                        && law.makesReady(one.sort, one.schooling, days.today)) {
                    many++;
                }
            }
            return many;
        }

        /** Reckons how many would be ready in each beat after each number of lessons. */
        void foresee() {
            for (int beat = 0; beat < BEATS; beat++) {
                for (int given = 0; given <= MOST; given++) {
                    readyAfter[beat][given] = 0;
                }
            }
            for (int person = 0; person < county.size; person++) {
                Person one = county.at(person);
                for (int given = 0; given <= MOST; given++) {
                    if (one.waits() && isBeat(one.beat) && law.makesReady(one.sort,
                            one.schoolingAfter(given), days.today)) {
                        readyAfter[one.beat][given]++;
                    }
                }
            }
        }

        /** How many were foreseen to be ready in a beat after so many lessons there. */
        int foreseen(int beat, int given) {
            return readyAfter[beat][given];
        }

        /** The ready ones in all with h lessons at most (beat NONE), or the lessons for a beat. */
        int share(int h, int beat) {
            foresee();
            reckonMostFrom(h);
            int used = 0;
            for (int given = 1; given <= h; given++) {
                if (mostFrom[0][given] > mostFrom[0][used]) {
                    used = given;
                }
            }
            return beat == NONE ? mostFrom[0][used] : lessonsFor(beat, used);
        }

        /** Reckons the most ready ones in each beat and those behind it, by the lessons for them. */
        private void reckonMostFrom(int h) {
            for (int given = 0; given <= h; given++) {
                mostFrom[BEATS - 1][given] = readyAfter[BEATS - 1][given];
            }
            for (int beat = BEATS - 2; beat >= 0; beat--) {
                for (int given = 0; given <= h; given++) {
                    mostFrom[beat][given] = 0;
                    for (int here = 0; here <= given; here++) {
                        mostFrom[beat][given] = Math.max(mostFrom[beat][given], with(beat, given, here));
                    }
                }
            }
        }

        private int with(int beat, int given, int here) {
            return readyAfter[beat][here] + mostFrom[beat + 1][given - here];
        }

        private int lessonsFor(int beat, int used) {
            int left = used;
            for (int earlier = 0; earlier < BEATS - 1; earlier++) {
                int here = left;
                while (here > 0 && with(earlier, left, here) < mostFrom[earlier][left]) {
                    here--;
                }
                if (earlier == beat) {
                    return here;
                }
                left -= here;
            }
            return left;
        }
    }

    /** The choices of a summer, and what comes of taking some of them. */
    private static final class Summer {
        private static final int ROOM = 8;

        int size;
        private final Law law;
        private final County county;
        private final Days days;
        private final Lessons lessons;
        private final boolean[] isRide = new boolean[ROOM];
        private final int[] targets = new int[ROOM];
        private final int[] prices = new int[ROOM];
        private final int[] given = new int[BEATS];
        private int rightAnswers;
        private int came;
        private int readyThen;

        Summer(Law law, County county, Days days, Lessons lessons) {
            this.law = law;
            this.county = county;
            this.days = days;
            this.lessons = lessons;
        }

        boolean isFull() {
            return size >= ROOM;
        }

        int offer(boolean ride, int target, int price) {
            isRide[size] = ride;
            targets[size] = target;
            prices[size] = price;
            size++;
            return size;
        }

        int clear() {
            int before = size;
            size = 0;
            return before;
        }

        int allBits() {
            return (1 << size) - 1;
        }

        int outcome(int bits, int what) {
            if (what == 2) {
                return priceOf(bits);
            }
            lessons.foresee();
            rightAnswers = law.rightAnswers(days.today);
            goThrough(bits);
            return what == 0 ? came : readyThen;
        }

        int bestWithin(int price) {
            lessons.foresee();
            rightAnswers = law.rightAnswers(days.today);
            goThrough(0);
            int best = 0;
            int bestCame = came;
            int bestReady = readyThen;
            for (int bits = 1; bits <= allBits(); bits++) {
                if (priceOf(bits) > price) {
                    continue;
                }
                goThrough(bits);
                if (came > bestCame || came == bestCame && (readyThen > bestReady
                        || readyThen == bestReady && isCheaper(bits, best))) {
                    best = bits;
                    bestCame = came;
                    bestReady = readyThen;
                }
            }
            return best;
        }

        private boolean isCheaper(int bits, int best) {
            int less = priceOf(best) - priceOf(bits);
            return less > 0 || less == 0 && Integer.bitCount(bits) < Integer.bitCount(best);
        }

        private int priceOf(int bits) {
            int price = 0;
            for (int i = 0; i < size; i++) {
                if ((bits >> i & 1) != 0) {
                    price += prices[i];
                }
            }
            return price;
        }

        /** Takes choices in order without changing the county; came and readyThen tell what was. */
        private void goThrough(int bits) {
            for (int beat = 0; beat < BEATS; beat++) {
                given[beat] = 0;
            }
            came = 0;
            long cameBits = 0;
            for (int i = 0; i < size; i++) {
                if ((bits >> i & 1) == 0) {
                    continue;
                }
                if (!isRide[i]) {
                    given[targets[i]]++;
                } else if ((cameBits >> targets[i] & 1) == 0 && arrives(county.at(targets[i]))) {
                    cameBits |= 1L << targets[i];
                    came++;
                }
            }
            // Who came by a ride had the schooling for it, so it is among those foreseen as ready.
            readyThen = -came;
            for (int beat = 0; beat < BEATS; beat++) {
                readyThen += lessons.foreseen(beat, given[beat]);
            }
        }

        /** Whether a ride brings one on the roll after the lessons given so far. */
        private boolean arrives(Person one) {
            if (!one.waits() || !isBeat(one.beat)) {
                return false;
            }
            // Where its sort is not allowed a lesson teaches it nothing, but then it is refused anyway.
            int schooling = one.schoolingAfter(given[one.beat]);
            return law.lacks(one.sort, schooling, rightAnswers, days.today) == 0;
        }
    }

    /** The lists that were printed, and what came of them. */
    private static final class Lists {
        private static final int ROOM = 30;

        int size;
        private final County county;
        private final Days days;
        private final int[] printedOn = new int[ROOM];
        private final int[] onIt = new int[ROOM];
        private final int[] gone = new int[ROOM];
        private final int[] struck = new int[ROOM];
        private final int[] goneIn = new int[BEATS];

        Lists(County county, Days days) {
            this.county = county;
            this.days = days;
        }

        boolean holds(int list) {
            return list >= 0 && list < size;
        }

        boolean isFull() {
            return size >= ROOM;
        }

        int print() {
            int list = size;
            size++;
            printedOn[list] = days.today;
            onIt[list] = county.tally(NONE, NONE, ON);
            gone[list] = driveOut();
            struck[list] = frighten();
            return gone[list];
        }

        int tell(int list, int what) {
            switch (what) {
                case 0: return printedOn[list];
                case 1: return onIt[list];
                case 2: return gone[list];
                default: return struck[list];
            }
        }

        private int driveOut() {
            for (int beat = 0; beat < BEATS; beat++) {
                goneIn[beat] = 0;
            }
            int many = 0;
            for (int person = 0; person < county.size; person++) {
                Person one = county.at(person);
                if (losesHouse(one)) {
                    goneIn[one.beat]++;
                    one.become(GONE);
                    many++;
                }
            }
            return many;
        }

        private boolean losesHouse(Person one) {
            return one.state == ON && isBeat(one.beat) && county.holds(one.owner)
                    && one.fear < county.at(one.owner).harsh;
        }

        private int frighten() {
            int many = 0;
            for (int person = 0; person < county.size; person++) {
                Person one = county.at(person);
                int seen = isBeat(one.beat) ? goneIn[one.beat] : 0;
                if (seen > 0) {
                    if (one.state == ON && one.fear + seen >= 10) {
                        one.become(STRUCK);
                        many++;
                    }
                    one.fear = Math.min(MOST_FEAR, one.fear + 1);
                }
            }
            return many;
        }
    }

    /** A sheet: lost, or a row of a type. */
    private static final class Sheet {
        static final int ROOM = 40;

        int type = NONE;
        int size;
        // Holds the items of any type, each with no more bits than its type has.
        final int[] items = new int[ROOM];

        boolean isLost() {
            return type == NONE;
        }

        void renew(int newType, int n) {
            type = newType;
            size = n;
            for (int i = 0; i < ROOM; i++) {
                items[i] = 0;
            }
        }

        int vanish() {
            int before = size;
            type = NONE;
            size = 0;
            return before;
        }

        int item(int i) {
            return items[i];
        }

        void store(int i, int v) {
            switch (type) {
                case 0: items[i] = (byte) v; break;
                case 1: items[i] = (short) v; break;
                default: items[i] = v; break;
            }
        }

        boolean hasRange(int from, int n) {
            return from >= 0 && n >= 0 && from <= size && n <= size - from;
        }

        /** The finding when an item is treated as of a type; 0: none. */
        int troubleAt(int asType, int i) {
            if (isLost()) {
                return NULL;
            }
            if (type != asType) {
                return CAST;
            }
            return i >= 0 && i < size ? 0 : INDEX;
        }
    }
}
