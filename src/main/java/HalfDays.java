import java.util.Arrays;

/** The half days of a county's children, as the numbered promises of the document tell them. */
public final class HalfDays {
    public static final int NONE = -1;

    private static final int BAD_NUMBER = -1;
    private static final int NO_SUCH = -2;
    private static final int CANT_BE = -3;
    private static final int TWICE = -4;
    private static final int NO_ROOM = -5;
    private static final int NO_TEXT = -6;

    private static final int DAYS = 400;
    private static final int HALVES = 2 * DAYS;
    private static final int WEEKS = 58;
    private static final int CHILDREN = 40;
    private static final int SCHOOLS = 5;
    private static final int ROUTES = 8;
    private static final int ROLLS = 120;
    private static final int TOLD = 60;
    private static final int MARKS = 400;
    private static final int LETTERS = 26;
    private static final int MINUTES = 300;
    private static final int STEPS = 4;
    private static final int ROLES = 4;
    private static final int JOINS = 6;
    private static final int FIGURES = 8;
    private static final int VISITS = 9;
    private static final int DRAWN = 12;
    private static final int IMAGES = 2;

    private static final int ACTS = 20;
    private static final int CLAUSES = 12;
    private static final int TAPE = 400;
    private static final int LEAVES = 50;
    private static final int BRACKETS = 8;
    private static final int GREATEST_NUMBER = 10000;
    private static final int GREATEST_SPAN = 400;
    private static final int LOOKED_BACK = 84;
    private static final long GREATEST_SUM = 1000000000L;
    private static final long BROKEN = 1L << 62;

    private static final int HERE = 0;
    private static final int LATE = 1;
    private static final int AWAY = 3;
    private static final int WITHOUT = 4;

    /** A clause's key is its head and what stands behind it, so that one comparison finds it. */
    private static final int CODE = 0;
    private static final int STEP = 128;
    private static final int FINE = 256;
    private static final int SHUT = 384;
    private static final int OFF = 512;
    private static final int STRIKE = 640;

    /** An entry of a text's code: one of these in the lowest bits, its argument above. */
    private static final int ARGUMENT = 8;
    private static final int OP_MASK = 255;
    private static final int OP_NUMBER = 0;
    private static final int OP_WORD = 1;
    private static final int OP_ADD = 2;
    private static final int OP_SUBTRACT = 3;
    private static final int OP_MULTIPLY = 4;
    private static final int OP_DIVIDE = 5;
    private static final int OP_LESS = 6;
    private static final int OP_MORE = 7;
    private static final int OP_SAME = 8;
    private static final int OP_NOT = 9;
    private static final int OP_AND = 10;
    private static final int OP_OR = 11;

    private static final int TOKEN_END = 0;
    private static final int TOKEN_WORD = 1;
    private static final int TOKEN_NUMBER = 2;
    private static final int TOKEN_SIGN = 3;

    /** Words are compared by their bytes, which fit a long: no word of the language has more than eight. */
    private static final int LONGEST_WORD = 8;
    private static final long WORD_CODE = 0x636f6465L;
    private static final long WORD_STEP = 0x73746570L;
    private static final long WORD_FINE = 0x66696e65L;
    private static final long WORD_SHUT = 0x73687574L;
    private static final long WORD_OFF = 0x6f6666L;
    private static final long WORD_STRIKE = 0x737472696b65L;
    private static final long WORD_CLAUSE = 0x636c61757365L;
    private static final long WORD_IF = 0x6966L;
    private static final long WORD_IN = 0x696eL;
    private static final long WORD_QUICK = 0x717569636bL;
    private static final long WORD_OR = 0x6f72L;
    private static final long WORD_AND = 0x616e64L;
    private static final long WORD_NOT = 0x6e6f74L;
    /** here, late, allowed, away, none. */
    private static final long[] KIND_WORDS = {
        0x68657265L, 0x6c617465L, 0x616c6c6f776564L, 0x61776179L, 0x6e6f6e65L};
    /** born, minutes, half, day, week, school, away, possible. */
    private static final long[] SUM_WORDS = {
        0x626f726eL, 0x6d696e75746573L, 0x68616c66L, 0x646179L, 0x7765656bL, 0x7363686f6f6cL,
        0x61776179L, 0x706f737369626c65L};
    /** carer, part, bus, home; they are numbered behind the words of sums. */
    private static final long[] TEST_WORDS = {0x6361726572L, 0x70617274L, 0x627573L, 0x686f6d65L};
    private static final int FIRST_TEST_WORD = 8;

    private final County now = new County();
    private final County[] images = new County[IMAGES];
    private final Reader reader = new Reader();
    private final Asker asker = new Asker(now);
    private final Choices choices = new Choices(now);
    private int refusal;

    public HalfDays() {
    }

    public int child(int born, boolean carer, int route, int x, int y) {
        People people = now.people;
        if (isOutside(born, 3, 18) || isOutside(route, NONE, ROUTES - 1) || isNoPlace(x, y)) {
            return answer(BAD_NUMBER);
        }
        if (people.children >= CHILDREN) {
            return answer(NO_ROOM);
        }
        return answer(people.addChild(born, carer, route, x, y));
    }

    public int school() {
        if (now.people.schools >= SCHOOLS) {
            return answer(NO_ROOM);
        }
        now.people.schools++;
        return answer(now.people.schools - 1);
    }

    public int shut(int school, int day) {
        People people = now.people;
        if (isNoDay(day)) {
            return answer(BAD_NUMBER);
        }
        if (people.isNoSchool(school)) {
            return answer(NO_SUCH);
        }
        if (people.isShut(school, day)) {
            return answer(TWICE);
        }
        people.shutOn[day] |= 1 << school;
        return answer(0);
    }

    public int comes(int child, int school, int day) {
        Rolls rolls = now.rolls;
        if (isNoDay(day)) {
            return answer(BAD_NUMBER);
        }
        if (now.people.isNoChild(child) || now.people.isNoSchool(school)) {
            return answer(NO_SUCH);
        }
        int latest = rolls.latestOf(child, school);
        if (latest != NONE && (rolls.first[latest] >= day || rolls.gone[latest] > day)) {
            return answer(CANT_BE);
        }
        if (rolls.entries >= ROLLS) {
            return answer(NO_ROOM);
        }
        return answer(rolls.addEntry(child, school, day));
    }

    public int goes(int child, int school, int day, int whither) {
        Rolls rolls = now.rolls;
        if (isNoDay(day) || whither != NONE && now.people.isNoSchool(whither)) {
            return answer(BAD_NUMBER);
        }
        if (now.people.isNoChild(child) || now.people.isNoSchool(school)) {
            return answer(NO_SUCH);
        }
        int latest = rolls.latestOf(child, school);
        if (latest == NONE || rolls.gone[latest] != Rolls.STAYS || day < rolls.first[latest]) {
            return answer(CANT_BE);
        }
        rolls.gone[latest] = day;
        rolls.whither[latest] = whither;
        return answer(0);
    }

    public int isOn(int child, int school, int day) {
        if (isNoDay(day) || now.people.isNoChild(child) || now.people.isNoSchool(school)) {
            return NONE;
        }
        return now.rolls.isListed(child, school, day) ? 1 : 0;
    }

    public int failed(int route, int half) {
        People people = now.people;
        if (isOutside(route, 0, ROUTES - 1) || isNoHalf(half)) {
            return answer(BAD_NUMBER);
        }
        if (people.hasFailed(route, half)) {
            return answer(TWICE);
        }
        if (people.buses >= TOLD) {
            return answer(NO_ROOM);
        }
        return answer(people.addBus(route, half));
    }

    public int has(int child, int what, int from, int to) {
        People people = now.people;
        if (isOutside(what, 0, 1) || isNoDay(from) || isNoDay(to) || from > to) {
            return answer(BAD_NUMBER);
        }
        if (people.isNoChild(child)) {
            return answer(NO_SUCH);
        }
        if (people.spans[what] >= TOLD) {
            return answer(NO_ROOM);
        }
        return answer(people.addSpan(child, what, from, to));
    }

    public int mark(int school, int child, int half, int letter, int minutes, int known) {
        if (isNoHalf(half) || isOutside(letter, 0, LETTERS - 1) || isOutside(minutes, 0, MINUTES)
                || isNoDay(known)) {
            return answer(BAD_NUMBER);
        }
        if (now.people.isNoChild(child) || now.people.isNoSchool(school)) {
            return answer(NO_SUCH);
        }
        int day = half / 2;
        if (day % 7 >= 5 || now.people.isShut(school, day) || !now.rolls.isListed(child, school, day)) {
            return answer(CANT_BE);
        }
        if (now.marks.marks >= MARKS) {
            return answer(NO_ROOM);
        }
        return answer(now.marks.addMark(school, child, half, letter, minutes, known));
    }

    public int appeal(int mark, int letter, int known) {
        Marks marks = now.marks;
        if (isOutside(letter, 0, LETTERS - 1) || isNoDay(known)) {
            return answer(BAD_NUMBER);
        }
        if (marks.isNoMark(mark)) {
            return answer(NO_SUCH);
        }
        if (marks.grantedFrom[mark] != NONE) {
            return answer(TWICE);
        }
        marks.granted[mark] = letter;
        marks.grantedFrom[mark] = known;
        return answer(0);
    }

    public int tells(int school, int child, int half, int known, int what) {
        if (isOutside(what, 0, 4)) {
            return NONE;
        }
        int mark = markThatCounts(school, child, half, known);
        if (mark == NONE || what == 0) {
            return mark;
        }
        if (what == 1) {
            return now.marks.letterAsKnown(mark, known);
        }
        if (what == 2) {
            return now.marks.minutes[mark];
        }
        int kind = asker.kindOf(mark, known);
        return what == 3 ? kind : asker.clauseThatCounts();
    }

    public int sees(int role, int school, int child, int half, int known) {
        if (isOutside(role, 0, ROLES - 1)) {
            return NONE;
        }
        int mark = markThatCounts(school, child, half, known);
        if (mark == NONE) {
            return NONE;
        }
        int letter = now.marks.letterAsKnown(mark, known);
        asker.askOfMark(mark);
        return asker.findLastThatHolds(SHUT + letter * ROLES + role) ? CANT_BE : letter;
    }

    public int feed(int a, int b, int c, int d, int e) {
        if (reader.length > TAPE - 20) {
            return NONE;
        }
        reader.append(a);
        reader.append(b);
        reader.append(c);
        reader.append(d);
        reader.append(e);
        return reader.length;
    }

    public int end(int n) {
        if (isOutside(n, 0, reader.length)) {
            return NONE;
        }
        reader.length = n;
        return n;
    }

    public int act(int from) {
        if (isNoDay(from)) {
            return answer(BAD_NUMBER);
        }
        if (now.acts.texts >= ACTS) {
            return answer(NO_ROOM);
        }
        Text text = reader.readText();
        if (text == null) {
            return answer(NO_TEXT);
        }
        now.acts.addText(text, from);
        return answer(now.acts.texts - 1);
    }

    public int fault() {
        return reader.fault;
    }

    public int force(int text, int clause, int day) {
        if (isNoDay(day)) {
            return NONE;
        }
        return asker.isInForce(text, clause, day);
    }

    public int rate(int child, int from, int to, int known, int what) {
        if (areNoHalves(from, to) || isNoDay(known) || now.people.isNoChild(child)) {
            return NONE;
        }
        asker.countSessions(NONE, child, from, to, known);
        return asker.rateNumber(what);
    }

    public int dip(int school, int from, int to, int known, int what) {
        if (areNoHalves(from, to) || isNoDay(known) || now.people.isNoSchool(school)) {
            return NONE;
        }
        asker.countSessions(school, NONE, from, to, known);
        return asker.rateNumber(what);
    }

    public int due(int child, int step, int from, int known) {
        if (isNoStep(step) || isNoDay(from) || isNoDay(known) || now.people.isNoChild(child)) {
            return NONE;
        }
        asker.tallyDays(child, known);
        return asker.firstDueDay(child, step, from, DAYS - 1);
    }

    public int take(int child, int step, int day) {
        Steps steps = now.steps;
        if (isNoStep(step) || isNoDay(day)) {
            return answer(BAD_NUMBER);
        }
        if (now.people.isNoChild(child)) {
            return answer(NO_SUCH);
        }
        int place = child * STEPS + step;
        int before = step == 0 ? NONE : steps.taken[place - 1];
        if (step > 0 && before == NONE) {
            return answer(CANT_BE);
        }
        asker.tallyDays(child, day);
        if (asker.firstDueDay(child, step, before + 1, day) == NONE) {
            return answer(CANT_BE);
        }
        if (steps.taken[place] != NONE) {
            return answer(TWICE);
        }
        steps.taken[place] = day;
        return answer(0);
    }

    public int stands(int child, int step, int known) {
        if (isNoStep(step) || isNoDay(known) || now.people.isNoChild(child)) {
            return NONE;
        }
        asker.tallyDays(child, known);
        return asker.isStanding(child, step, known) ? 1 : 0;
    }

    public int pay(int child, int step, int day) {
        Steps steps = now.steps;
        if (isNoStep(step) || isNoDay(day)) {
            return answer(BAD_NUMBER);
        }
        if (now.people.isNoChild(child)) {
            return answer(NO_SUCH);
        }
        int place = child * STEPS + step;
        int taken = steps.taken[place];
        if (taken == NONE || taken > day) {
            return answer(CANT_BE);
        }
        if (steps.paidOn[place] != NONE) {
            return answer(TWICE);
        }
        asker.tallyDays(child, taken);
        int whole = asker.wholeFine(child, step, taken);
        boolean quick = day - taken < asker.value;
        steps.paidOn[place] = day;
        steps.paid[place] = quick ? whole / 2 : whole;
        return answer(steps.paid[place]);
    }

    public int fine(int child, int step, int known, int what) {
        if (isNoStep(step) || isNoDay(known) || isOutside(what, 0, 2) || now.people.isNoChild(child)) {
            return NONE;
        }
        Steps steps = now.steps;
        int place = child * STEPS + step;
        int taken = steps.taken[place];
        if (taken == NONE || taken > known) {
            return NONE;
        }
        if (what > 0) {
            asker.tallyDays(child, known);
            boolean stands = asker.isStanding(child, step, known);
            boolean paid = steps.paidOn[place] != NONE && steps.paidOn[place] <= known;
            if (what == 2) {
                return paid && !stands ? steps.paid[place] : 0;
            }
            if (paid || !stands) {
                return 0;
            }
        }
        asker.tallyDays(child, taken);
        return asker.wholeFine(child, step, taken);
    }

    public int off(int child, int day, int known) {
        if (isNoDay(day) || isNoDay(known) || now.people.isNoChild(child)) {
            return NONE;
        }
        asker.tallyDays(child, known);
        asker.askOfDay(child, day);
        return asker.findLastThatHolds(OFF) ? 1 : 0;
    }

    public int rolls(int day, int what, int i) {
        if (isNoDay(day) || isOutside(what, 0, 2)) {
            return NONE;
        }
        int many = 0;
        for (int child = 0; child < now.people.children; child++) {
            if (now.isOddOnRolls(child, day, what)) {
                if (many == i) {
                    return child;
                }
                many++;
            }
        }
        return i == NONE ? many : NONE;
    }

    public int seen(int child, int day, int known) {
        if (isNoDay(day) || isNoDay(known) || now.people.isNoChild(child)) {
            return NONE;
        }
        return asker.lastSeen(child, day, known);
    }

    public int record(int marks) {
        Lists lists = now.lists;
        if (areNoFigures(marks)) {
            return answer(BAD_NUMBER);
        }
        if (lists.records >= JOINS) {
            return answer(NO_ROOM);
        }
        lists.recordMarks[lists.records] = marks;
        lists.records++;
        return answer(lists.records);
    }

    public int missing(int child, int marks) {
        Lists lists = now.lists;
        if (areNoFigures(marks)) {
            return answer(BAD_NUMBER);
        }
        if (now.people.isNoChild(child)) {
            return answer(NO_SUCH);
        }
        if (isAmong(lists.missingChild, lists.missed, child)) {
            return answer(TWICE);
        }
        if (lists.missed >= JOINS) {
            return answer(NO_ROOM);
        }
        lists.missingChild[lists.missed] = child;
        lists.missingMarks[lists.missed] = marks;
        lists.missed++;
        return answer(lists.missed);
    }

    public int join(int least) {
        if (isOutside(least, 0, FIGURES)) {
            return NONE;
        }
        return choices.bestJoin(least);
    }

    public int joined(int i) {
        if (i == NONE) {
            return choices.rivals;
        }
        return isOutside(i, 0, choices.rowLength - 1) ? NONE : choices.row[i];
    }

    public int judge(int row, int least) {
        if (row < 0 || isOutside(least, 0, FIGURES)) {
            return NONE;
        }
        return choices.likeOfRow(row, least);
    }

    public int cannot(int from, int to, int known, int i) {
        if (areNoHalves(from, to) || isNoDay(known)) {
            return NONE;
        }
        asker.noteKinds(known);
        int many = 0;
        for (int mark = 0; mark < now.marks.marks; mark++) {
            if (!isOutside(now.marks.half[mark], from, to) && asker.isImpossible(mark)) {
                if (many == i) {
                    return mark;
                }
                many++;
            }
        }
        return i == NONE ? many : NONE;
    }

    public int visit(int child, int minutes, int worth) {
        Lists lists = now.lists;
        if (isOutside(minutes, 1, 200) || isOutside(worth, 1, 1000)) {
            return answer(BAD_NUMBER);
        }
        if (now.people.isNoChild(child)) {
            return answer(NO_SUCH);
        }
        if (lists.visits >= VISITS) {
            return answer(NO_ROOM);
        }
        lists.visitChild[lists.visits] = child;
        lists.visitMinutes[lists.visits] = minutes;
        lists.visitWorth[lists.visits] = worth;
        lists.visits++;
        return answer(lists.visits);
    }

    public int round(int x, int y, int n, int what) {
        if (isNoPlace(x, y) || isOutside(n, 0, 2000) || isOutside(what, 0, 2)) {
            return NONE;
        }
        choices.bestRound(x, y, n);
        return what == 0 ? choices.roundBits : what == 1 ? choices.roundWorth : choices.roundMinutes;
    }

    public int dips(int week, int known, int t, int what) {
        if (isOutside(week, 0, WEEKS - 1) || isNoDay(known) || isOutside(t, 1, 20) || isOutside(what, 0, 1)) {
            return NONE;
        }
        asker.countWeek(week, known);
        return what == 0 ? asker.dippingSchools(t) : asker.schoolsLookedAt();
    }

    public int draw(int child, int got, int did) {
        Lists lists = now.lists;
        if (isOutside(got, 0, 1) || isOutside(did, -100, 100)) {
            return answer(BAD_NUMBER);
        }
        if (now.people.isNoChild(child)) {
            return answer(NO_SUCH);
        }
        if (isAmong(lists.drawnChild, lists.drawn, child)) {
            return answer(TWICE);
        }
        if (lists.drawn >= DRAWN) {
            return answer(NO_ROOM);
        }
        lists.drawnChild[lists.drawn] = child;
        lists.drawnGot[lists.drawn] = got;
        lists.drawnDid[lists.drawn] = did;
        lists.drawn++;
        return answer(lists.drawn);
    }

    public int helped(int what) {
        return isOutside(what, 0, 1) ? NONE : choices.waysToDraw(what == 0);
    }

    public int beside(int from, int known) {
        if (isNoDay(from) || isNoDay(known) || now.acts.texts >= ACTS) {
            return NONE;
        }
        Text text = reader.readText();
        if (text == null) {
            return NONE;
        }
        asker.noteKinds(known);
        now.acts.addText(text, from);
        int changed = asker.countChangedKinds(known);
        now.acts.dropLastText();
        return changed;
    }

    public int seal(int day) {
        if (isNoDay(day)) {
            return answer(BAD_NUMBER);
        }
        return answer(now.marks.sealDay(day));
    }

    public int alter(int mark, int mask) {
        if (isOutside(mask, 1, 7)) {
            return answer(BAD_NUMBER);
        }
        if (now.marks.isNoMark(mark)) {
            return answer(NO_SUCH);
        }
        return answer(now.marks.turnBits(mark, mask));
    }

    public int found(int day) {
        return isNoDay(day) ? CANT_BE : now.marks.findAltered(day);
    }

    public int image(int k) {
        if (isOutside(k, 0, IMAGES - 1)) {
            return answer(BAD_NUMBER);
        }
        if (images[k] == null) {
            images[k] = new County();
        }
        images[k].becomeLike(now);
        return answer(0);
    }

    public int back(int k) {
        if (isOutside(k, 0, IMAGES - 1)) {
            return answer(BAD_NUMBER);
        }
        if (images[k] == null) {
            return answer(NO_SUCH);
        }
        now.becomeLike(images[k]);
        return answer(0);
    }

    public int count(int what) {
        switch (what) {
            case 0: return now.people.children;
            case 1: return now.people.schools;
            case 2: return now.rolls.entries;
            case 3: return now.marks.marks;
            case 4: return now.acts.texts;
            case 5: return now.lists.records;
            case 6: return now.lists.missed;
            case 7: return now.lists.visits;
            case 8: return now.lists.drawn;
            case 9: return reader.length;
            default: return NONE;
        }
    }

    public int status() {
        return refusal;
    }

    /** Every call that status() tells of answers through here; what is refused is below 0, nothing else is. */
    private int answer(int answer) {
        refusal = answer < 0 ? answer : 0;
        return answer;
    }

    private int markThatCounts(int school, int child, int half, int known) {
        if (isNoHalf(half) || isNoDay(known) || now.people.isNoChild(child) || now.people.isNoSchool(school)) {
            return NONE;
        }
        return now.marks.latestKnown(school, child, half, known);
    }

    private static boolean isOutside(int number, int least, int most) {
        return number < least || number > most;
    }

    private static boolean isNoDay(int day) {
        return day < 0 || day >= DAYS;
    }

    private static boolean isNoHalf(int half) {
        return half < 0 || half >= HALVES;
    }

    private static boolean areNoHalves(int from, int to) {
        return from < 0 || to >= HALVES || from > to;
    }

    private static boolean isNoStep(int step) {
        return step < 0 || step >= STEPS;
    }

    private static boolean isNoPlace(int x, int y) {
        return isOutside(x, 0, 99) || isOutside(y, 0, 99);
    }

    private static boolean areNoFigures(int marks) {
        return isOutside(marks, 0, 99999999);
    }

    private static boolean isAmong(int[] row, int length, int wanted) {
        for (int i = 0; i < length && i < row.length; i++) {
            if (row[i] == wanted) {
                return true;
            }
        }
        return false;
    }

    private static void copyRow(int[] from, int[] to) {
        System.arraycopy(from, 0, to, 0, Math.min(from.length, to.length));
    }

    /** All that an image keeps. */
    private static final class County {
        final People people = new People();
        final Rolls rolls = new Rolls();
        final Marks marks = new Marks();
        final Acts acts = new Acts();
        final Steps steps = new Steps();
        final Lists lists = new Lists();

        void becomeLike(County other) {
            people.becomeLike(other.people);
            rolls.becomeLike(other.rolls);
            marks.becomeLike(other.marks);
            acts.becomeLike(other.acts);
            steps.becomeLike(other.steps);
            lists.becomeLike(other.lists);
        }

        /** Whether a child is on no roll (what 0), on two (1), lost between two (2). */
        boolean isOddOnRolls(int child, int day, int what) {
            if (what == 2) {
                return rolls.isLost(child, day);
            }
            int on = rolls.schoolsOf(child, day);
            if (what == 1) {
                return on > 1;
            }
            return on == 0 && !isOutside(people.born[child], 5, 16) && !people.isWithin(child, 1, day);
        }
    }

    /** Children, schools with the days on which they are shut, buses that failed, part days and home. */
    private static final class People {
        int children;
        final int[] born = new int[CHILDREN];
        final int[] carer = new int[CHILDREN];
        final int[] route = new int[CHILDREN];
        final int[] x = new int[CHILDREN];
        final int[] y = new int[CHILDREN];
        int schools;
        final int[] shutOn = new int[DAYS];
        int buses;
        final int[] busRoute = new int[TOLD];
        final int[] busHalf = new int[TOLD];
        final int[] spans = new int[2];
        final int[] spanChild = new int[2 * TOLD];
        final int[] spanFrom = new int[2 * TOLD];
        final int[] spanTo = new int[2 * TOLD];

        boolean isNoChild(int child) {
            return child < 0 || child >= children;
        }

        boolean isNoSchool(int school) {
            return school < 0 || school >= schools;
        }

        int addChild(int years, boolean isCarer, int itsRoute, int itsX, int itsY) {
            born[children] = years;
            carer[children] = isCarer ? 1 : 0;
            route[children] = itsRoute;
            x[children] = itsX;
            y[children] = itsY;
            children++;
            return children - 1;
        }

        boolean isShut(int school, int day) {
            return (shutOn[day] >> school & 1) == 1;
        }

        boolean hasFailed(int itsRoute, int half) {
            for (int i = 0; i < buses; i++) {
                if (busRoute[i] == itsRoute && busHalf[i] == half) {
                    return true;
                }
            }
            return false;
        }

        int addBus(int itsRoute, int half) {
            busRoute[buses] = itsRoute;
            busHalf[buses] = half;
            buses++;
            return buses;
        }

        /** Whether a child has part days (what 0), is taught at home (1) on a day. */
        boolean isWithin(int child, int what, int day) {
            int start = what * TOLD;
            for (int i = start; i < start + spans[what]; i++) {
                if (spanChild[i] == child && spanFrom[i] <= day && day <= spanTo[i]) {
                    return true;
                }
            }
            return false;
        }

        int addSpan(int child, int what, int from, int to) {
            int place = what * TOLD + spans[what];
            spanChild[place] = child;
            spanFrom[place] = from;
            spanTo[place] = to;
            spans[what]++;
            return spans[what];
        }

        void becomeLike(People other) {
            children = other.children;
            copyRow(other.born, born);
            copyRow(other.carer, carer);
            copyRow(other.route, route);
            copyRow(other.x, x);
            copyRow(other.y, y);
            schools = other.schools;
            copyRow(other.shutOn, shutOn);
            buses = other.buses;
            copyRow(other.busRoute, busRoute);
            copyRow(other.busHalf, busHalf);
            copyRow(other.spans, spans);
            copyRow(other.spanChild, spanChild);
            copyRow(other.spanFrom, spanFrom);
            copyRow(other.spanTo, spanTo);
        }
    }

    /** Who came on which school's roll, and went off it. */
    private static final class Rolls {
        /** The day behind all days: of one that was not told to go. */
        static final int STAYS = DAYS;

        int entries;
        final int[] child = new int[ROLLS];
        final int[] school = new int[ROLLS];
        final int[] first = new int[ROLLS];
        final int[] gone = new int[ROLLS];
        final int[] whither = new int[ROLLS];

        int addEntry(int itsChild, int itsSchool, int day) {
            child[entries] = itsChild;
            school[entries] = itsSchool;
            first[entries] = day;
            gone[entries] = STAYS;
            whither[entries] = NONE;
            entries++;
            return entries;
        }

        /** The one told last is also the one that comes last: an earlier day is refused. */
        int latestOf(int itsChild, int itsSchool) {
            for (int i = entries - 1; i >= 0; i--) {
                if (child[i] == itsChild && school[i] == itsSchool) {
                    return i;
                }
            }
            return NONE;
        }

        boolean isListed(int itsChild, int itsSchool, int day) {
            return isListedWithin(itsChild, itsSchool, day, day);
        }

        private boolean isListedWithin(int itsChild, int itsSchool, int from, int to) {
            for (int i = 0; i < entries; i++) {
                if (child[i] == itsChild && school[i] == itsSchool
                        && Math.max(first[i], from) <= Math.min(gone[i] - 1, to)) {
                    return true;
                }
            }
            return false;
        }

        int schoolsOf(int itsChild, int day) {
            int many = 0;
            for (int i = 0; i < entries; i++) {
                if (child[i] == itsChild && first[i] <= day && day < gone[i]) {
                    many++;
                }
            }
            return many;
        }

        boolean isLost(int itsChild, int day) {
            for (int i = 0; i < entries; i++) {
                if (child[i] == itsChild && gone[i] <= day && whither[i] != NONE
                        && !isListedWithin(itsChild, whither[i], gone[i], day)) {
                    return true;
                }
            }
            return false;
        }

        void becomeLike(Rolls other) {
            entries = other.entries;
            copyRow(other.child, child);
            copyRow(other.school, school);
            copyRow(other.first, first);
            copyRow(other.gone, gone);
            copyRow(other.whither, whither);
        }
    }

    /** Marks with what was granted on appeal, and the sums of sealed days. */
    private static final class Marks {
        int marks;
        final int[] school = new int[MARKS];
        final int[] child = new int[MARKS];
        final int[] half = new int[MARKS];
        final int[] letter = new int[MARKS];
        final int[] minutes = new int[MARKS];
        final int[] known = new int[MARKS];
        final int[] granted = new int[MARKS];
        final int[] grantedFrom = new int[MARKS];
        /** The next mark by the same school of the same child in the same half. */
        final int[] next = new int[MARKS];
        final int[] sealedMarks = new int[DAYS];
        final int[] sealedSum = new int[DAYS];
        final int[] sealedPlaces = new int[DAYS];
        private int daySum;
        private int dayPlaces;

        Marks() {
            Arrays.fill(sealedMarks, NONE);
        }

        boolean isNoMark(int mark) {
            return mark < 0 || mark >= marks;
        }

        int addMark(int itsSchool, int itsChild, int itsHalf, int itsLetter, int itsMinutes, int from) {
            int before = latestKnown(itsSchool, itsChild, itsHalf, DAYS);
            if (before != NONE) {
                next[before] = marks;
            }
            school[marks] = itsSchool;
            child[marks] = itsChild;
            half[marks] = itsHalf;
            letter[marks] = itsLetter;
            minutes[marks] = itsMinutes;
            known[marks] = from;
            grantedFrom[marks] = NONE;
            next[marks] = NONE;
            marks++;
            return marks - 1;
        }

        int latestKnown(int itsSchool, int itsChild, int itsHalf, int asKnown) {
            for (int i = marks - 1; i >= 0; i--) {
                if (half[i] == itsHalf && child[i] == itsChild && school[i] == itsSchool && known[i] <= asKnown) {
                    return i;
                }
            }
            return NONE;
        }

        boolean countsAsKnown(int mark, int asKnown) {
            if (known[mark] > asKnown) {
                return false;
            }
            int later = next[mark];
            for (int i = 0; i < marks && later != NONE; i++) {
                if (known[later] <= asKnown) {
                    return false;
                }
                later = next[later];
            }
            return true;
        }

        int letterAsKnown(int mark, int asKnown) {
            boolean appealed = grantedFrom[mark] != NONE && grantedFrom[mark] <= asKnown;
            return appealed ? granted[mark] : letter[mark];
        }

        private int numberOf(int mark) {
            return LETTERS * minutes[mark] + letter[mark];
        }

        int turnBits(int mark, int mask) {
            int number = numberOf(mark) ^ mask;
            letter[mark] = number % LETTERS;
            minutes[mark] = number / LETTERS;
            return number;
        }

        int sealDay(int day) {
            sealedMarks[day] = sumDay(day);
            sealedSum[day] = daySum;
            sealedPlaces[day] = dayPlaces;
            return sealedMarks[day];
        }

        /** How many marks a day has; their two sums are kept beside. */
        private int sumDay(int day) {
            int many = 0;
            daySum = 0;
            dayPlaces = 0;
            for (int i = 0; i < marks; i++) {
                if (half[i] / 2 == day) {
                    many++;
                    daySum += numberOf(i);
                    dayPlaces += numberOf(i) * many;
                }
            }
            return many;
        }

        int findAltered(int day) {
            if (sealedMarks[day] == NONE) {
                return CANT_BE;
            }
            int many = sumDay(day);
            int off = daySum - sealedSum[day];
            int placesOff = dayPlaces - sealedPlaces[day];
            if (off == 0 && placesOff == 0) {
                return NONE;
            }
            if (many > sealedMarks[day] || off == 0 || placesOff % off != 0) {
                return NO_SUCH;
            }
            return markAtPlace(day, placesOff / off);
        }

        private int markAtPlace(int day, int place) {
            int many = 0;
            for (int i = 0; i < marks; i++) {
                if (half[i] / 2 == day) {
                    many++;
                    if (many == place) {
                        return i;
                    }
                }
            }
            return NO_SUCH;
        }

        void becomeLike(Marks other) {
            marks = other.marks;
            copyRow(other.school, school);
            copyRow(other.child, child);
            copyRow(other.half, half);
            copyRow(other.letter, letter);
            copyRow(other.minutes, minutes);
            copyRow(other.known, known);
            copyRow(other.granted, granted);
            copyRow(other.grantedFrom, grantedFrom);
            copyRow(other.next, next);
            copyRow(other.sealedMarks, sealedMarks);
            copyRow(other.sealedSum, sealedSum);
            copyRow(other.sealedPlaces, sealedPlaces);
        }
    }

    /** The acts as told; a text is never changed, so that images may share it. */
    private static final class Acts {
        int texts;
        final Text[] text = new Text[ACTS];
        final int[] from = new int[ACTS];

        void addText(Text added, int day) {
            text[texts] = added;
            from[texts] = day;
            texts++;
        }

        void dropLastText() {
            texts--;
            text[texts] = null;
        }

        void becomeLike(Acts other) {
            texts = other.texts;
            for (int i = 0; i < ACTS; i++) {
                text[i] = other.text[i];
            }
            copyRow(other.from, from);
        }
    }

    /** A text that was read: of clause c the sum's code is at[2 c] .. at[2 c + 1], its test's from there to at[2 c + 2]. */
    private static final class Text {
        final int clauses;
        final int strikes;
        final int[] key;
        final int[] value;
        final int[] at;
        final int[] code;

        Text(Reader reader) {
            clauses = reader.clauses;
            key = Arrays.copyOf(reader.key, clauses);
            value = Arrays.copyOf(reader.value, clauses);
            at = Arrays.copyOf(reader.at, 2 * clauses + 1);
            code = Arrays.copyOf(reader.code, reader.codeLength);
            int many = 0;
            for (int c = 0; c < clauses; c++) {
                if (key[c] == STRIKE) {
                    many++;
                }
            }
            strikes = many;
        }
    }

    /** Steps taken and fines paid: step s of child c is at 4 c + s. */
    private static final class Steps {
        final int[] taken = new int[CHILDREN * STEPS];
        final int[] paidOn = new int[CHILDREN * STEPS];
        final int[] paid = new int[CHILDREN * STEPS];

        Steps() {
            Arrays.fill(taken, NONE);
            Arrays.fill(paidOn, NONE);
        }

        void becomeLike(Steps other) {
            copyRow(other.taken, taken);
            copyRow(other.paidOn, paidOn);
            copyRow(other.paid, paid);
        }
    }

    /** Records, the missing, visits, and who was drawn. */
    private static final class Lists {
        int records;
        final int[] recordMarks = new int[JOINS];
        int missed;
        final int[] missingChild = new int[JOINS];
        final int[] missingMarks = new int[JOINS];
        int visits;
        final int[] visitChild = new int[VISITS];
        final int[] visitMinutes = new int[VISITS];
        final int[] visitWorth = new int[VISITS];
        int drawn;
        final int[] drawnChild = new int[DRAWN];
        final int[] drawnGot = new int[DRAWN];
        final int[] drawnDid = new int[DRAWN];

        void becomeLike(Lists other) {
            records = other.records;
            copyRow(other.recordMarks, recordMarks);
            missed = other.missed;
            copyRow(other.missingChild, missingChild);
            copyRow(other.missingMarks, missingMarks);
            visits = other.visits;
            copyRow(other.visitChild, visitChild);
            copyRow(other.visitMinutes, visitMinutes);
            copyRow(other.visitWorth, visitWorth);
            drawn = other.drawn;
            copyRow(other.drawnChild, drawnChild);
            copyRow(other.drawnGot, drawnGot);
            copyRow(other.drawnDid, drawnDid);
        }
    }

    /** The tape, and the reader of the acts' language, which turns it into a text's code. */
    private static final class Reader {
        final int[] tape = new int[TAPE];
        int length;
        int fault = NONE;
        int clauses;
        final int[] key = new int[CLAUSES];
        final int[] value = new int[CLAUSES];
        final int[] at = new int[2 * CLAUSES + 1];
        final int[] code = new int[TAPE];
        int codeLength;
        private int leaves;
        private int tokenKind;
        private int tokenStart;
        private int tokenEnd;
        private int number;
        private long word;
        private int sign;

        void append(int fourBytes) {
            for (int shift = 24; shift >= 0 && length < TAPE; shift -= 8) {
                tape[length] = fourBytes >> shift & 255;
                length++;
            }
        }

        /** The tape's text, or null behind a fault; the tape is empty then. */
        Text readText() {
            fault = NONE;
            codeLength = 0;
            leaves = 0;
            tokenEnd = 0;
            nextToken();
            boolean more = true;
            for (int c = 0; c < CLAUSES && more; c++) {
                clauses = c;
                at[2 * c] = codeLength;
                readHead();
                at[2 * c + 1] = codeLength;
                if (fault == NONE && word == WORD_IF && key[c] != STRIKE) {
                    nextToken();
                    readTest(0);
                }
                at[2 * c + 2] = codeLength;
                clauses = c + 1;
                more = fault == NONE && isSign(';');
                if (more) {
                    nextToken();
                } else if (tokenKind != TOKEN_END) {
                    refuseToken();
                }
            }
            if (more) {
                refuseToken();
            }
            length = 0;
            return fault == NONE ? new Text(this) : null;
        }

        private void readHead() {
            if (word == WORD_CODE) {
                nextToken();
                int letter = takeLetter();
                putHead(CODE + letter, takeKind());
            } else if (word == WORD_STEP) {
                readStepHead(STEP, WORD_IN);
            } else if (word == WORD_FINE) {
                readStepHead(FINE, WORD_QUICK);
            } else if (word == WORD_SHUT) {
                nextToken();
                int letter = takeLetter();
                putHead(SHUT + letter * ROLES + takeNumber(0, ROLES - 1), 0);
            } else if (word == WORD_OFF) {
                nextToken();
                putHead(OFF, 0);
            } else if (word == WORD_STRIKE) {
                nextToken();
                int text = takeNumber(0, ACTS - 1);
                takeWord(WORD_CLAUSE);
                putHead(STRIKE, text * CLAUSES + takeNumber(0, CLAUSES - 1));
            } else {
                refuseToken();
            }
        }

        private void readStepHead(int head, long wordBehindSum) {
            nextToken();
            int step = takeNumber(0, STEPS - 1);
            if (fault == NONE) {
                readSum(0);
            }
            takeWord(wordBehindSum);
            putHead(head + step, takeNumber(1, GREATEST_SPAN));
        }

        private void putHead(int itsKey, int itsValue) {
            key[clauses] = itsKey;
            value[clauses] = itsValue;
        }

        /** An "or" or "and" jumps behind its right side if that can't matter; the next one looks at it again there. */
        private void readTest(int depth) {
            int orJump = NONE;
            for (int i = 0; i < TAPE; i++) {
                int andJump = NONE;
                for (int j = 0; j < TAPE; j++) {
                    readPlain(depth);
                    landJump(andJump);
                    if (fault != NONE || word != WORD_AND) {
                        break;
                    }
                    andJump = codeLength;
                    emit(OP_AND, 0);
                    nextToken();
                }
                landJump(orJump);
                if (fault != NONE || word != WORD_OR) {
                    return;
                }
                orJump = codeLength;
                emit(OP_OR, 0);
                nextToken();
            }
        }

        private void readPlain(int depth) {
            boolean turned = false;
            for (int i = 0; i < TAPE && word == WORD_NOT; i++) {
                turned = !turned;
                nextToken();
            }
            int testWord = wordAmong(TEST_WORDS);
            if (testWord != NONE) {
                readLeaf(OP_WORD, FIRST_TEST_WORD + testWord);
            } else if (!isSign('(')) {
                readSum(depth);
                int compares = isSign('<') ? OP_LESS : isSign('>') ? OP_MORE : isSign('=') ? OP_SAME : NONE;
                if (fault != NONE || compares == NONE) {
                    refuseToken();
                    return;
                }
                nextToken();
                readSum(depth);
                emit(compares, 0);
            } else if (depth < BRACKETS) {
                nextToken();
                readTest(depth + 1);
                closeBracket(')');
            } else {
                refuseToken();
            }
            if (turned) {
                emit(OP_NOT, 0);
            }
        }

        private void readSum(int depth) {
            int adds = NONE;
            for (int i = 0; i < TAPE; i++) {
                int multiplies = NONE;
                for (int j = 0; j < TAPE; j++) {
                    readPart(depth);
                    if (multiplies != NONE) {
                        emit(multiplies, 0);
                    }
                    multiplies = isSign('*') ? OP_MULTIPLY : isSign('/') ? OP_DIVIDE : NONE;
                    if (fault != NONE || multiplies == NONE) {
                        break;
                    }
                    nextToken();
                }
                if (adds != NONE) {
                    emit(adds, 0);
                }
                adds = isSign('+') ? OP_ADD : isSign('-') ? OP_SUBTRACT : NONE;
                if (fault != NONE || adds == NONE) {
                    return;
                }
                nextToken();
            }
        }

        private void readPart(int depth) {
            int sumWord = wordAmong(SUM_WORDS);
            if (sumWord != NONE) {
                readLeaf(OP_WORD, sumWord);
            } else if (tokenKind == TOKEN_NUMBER && number <= GREATEST_NUMBER) {
                readLeaf(OP_NUMBER, number);
            } else if (isSign('[') && depth < BRACKETS) {
                nextToken();
                readSum(depth + 1);
                closeBracket(']');
            } else {
                refuseToken();
            }
        }

        private void readLeaf(int op, int argument) {
            if (leaves >= LEAVES) {
                refuseToken();
                return;
            }
            leaves++;
            emit(op, argument);
            nextToken();
        }

        private void closeBracket(int bracket) {
            if (fault == NONE && isSign(bracket)) {
                nextToken();
            } else {
                refuseToken();
            }
        }

        /** Each entry has a token of its own, so that a tape's code is no longer than the tape. */
        private void emit(int op, int argument) {
            if (codeLength < code.length) {
                code[codeLength] = argument << ARGUMENT | op;
                codeLength++;
            }
        }

        private void landJump(int jump) {
            if (jump >= 0 && jump < codeLength) {
                code[jump] |= codeLength << ARGUMENT;
            }
        }

        private int takeNumber(int least, int most) {
            if (fault != NONE || tokenKind != TOKEN_NUMBER || isOutside(number, least, most)) {
                refuseToken();
                return 0;
            }
            int taken = number;
            nextToken();
            return taken;
        }

        private int takeLetter() {
            if (fault != NONE || tokenKind != TOKEN_WORD || tokenEnd - tokenStart != 1) {
                refuseToken();
                return 0;
            }
            int letter = (int) word - 'a';
            nextToken();
            return letter;
        }

        private int takeKind() {
            int kind = wordAmong(KIND_WORDS);
            if (fault != NONE || kind == NONE) {
                refuseToken();
                return 0;
            }
            nextToken();
            return kind;
        }

        private void takeWord(long wanted) {
            if (fault == NONE && word == wanted) {
                nextToken();
            } else {
                refuseToken();
            }
        }

        private int wordAmong(long[] words) {
            for (int i = 0; i < words.length; i++) {
                if (words[i] == word) {
                    return i;
                }
            }
            return NONE;
        }

        private boolean isSign(int wanted) {
            return tokenKind == TOKEN_SIGN && sign == wanted;
        }

        /** The first token that can't go on is the fault; later ones don't change it. */
        private void refuseToken() {
            if (fault == NONE) {
                fault = tokenStart;
            }
        }

        private void nextToken() {
            int i = tokenEnd;
            while (i < length && tape[i] == ' ') {
                i++;
            }
            tokenStart = i;
            word = 0;
            number = 0;
            if (i >= length) {
                tokenKind = TOKEN_END;
            } else if (tape[i] >= 'a' && tape[i] <= 'z') {
                tokenKind = TOKEN_WORD;
                while (i < length && tape[i] >= 'a' && tape[i] <= 'z') {
                    word = i - tokenStart < LONGEST_WORD ? word << 8 | tape[i] : 0;
                    i++;
                }
            } else if (tape[i] >= '0' && tape[i] <= '9') {
                tokenKind = TOKEN_NUMBER;
                while (i < length && tape[i] >= '0' && tape[i] <= '9') {
                    number = Math.min(number * 10 + tape[i] - '0', GREATEST_NUMBER + 1);
                    i++;
                }
            } else {
                tokenKind = TOKEN_SIGN;
                sign = tape[i];
                i++;
            }
            tokenEnd = i;
        }
    }

    /** Asks the acts of a child in a half, and counts sessions by what they answer. */
    private static final class Asker {
        private final County county;
        private final long[] stack = new long[LEAVES + 1];
        private final int[] struck = new int[ACTS];
        private final int[] kinds = new int[MARKS];
        private final int[] awayAhead = new int[DAYS + 1];
        private final int[] possibleAhead = new int[DAYS + 1];
        private final int[] weekPossible = new int[SCHOOLS];
        private final int[] weekAway = new int[SCHOOLS];
        private int askedChild;
        private int askedHalf;
        private int askedMinutes;
        private int askedSchool;
        private boolean sessionsAsked;
        private int possible;
        private int away;
        private int textFound;
        private int clauseFound;
        private int sum;
        /** What stands behind the head of the clause found: a kind, or the days of "in", "quick". */
        int value;

        Asker(County itsCounty) {
            county = itsCounty;
        }

        void askOfMark(int mark) {
            askedChild = county.marks.child[mark];
            askedHalf = county.marks.half[mark];
            askedMinutes = county.marks.minutes[mark];
            askedSchool = county.marks.school[mark];
            sessionsAsked = false;
        }

        /** Of a child in a day's first half; tallyDays() of that child must have been called. */
        void askOfDay(int child, int day) {
            askedChild = child;
            askedHalf = 2 * day;
            askedMinutes = 0;
            askedSchool = 0;
            sessionsAsked = true;
        }

        int kindOf(int mark, int known) {
            askOfMark(mark);
            return findLastThatHolds(CODE + county.marks.letterAsKnown(mark, known)) ? value : WITHOUT;
        }

        int clauseThatCounts() {
            return textFound == NONE ? NONE : textFound * CLAUSES + clauseFound;
        }

        boolean findLastThatHolds(int wanted) {
            Acts acts = county.acts;
            int day = askedHalf / 2;
            strikeClauses(day);
            for (int t = acts.texts - 1; t >= 0; t--) {
                Text text = acts.text[t];
                if (text == null || acts.from[t] > day) {
                    continue;
                }
                for (int c = text.clauses - 1; c >= 0; c--) {
                    if (text.key[c] == wanted && (struck[t] >> c & 1) == 0 && isHolding(text, c)) {
                        textFound = t;
                        clauseFound = c;
                        value = text.value[c];
                        return true;
                    }
                }
            }
            textFound = NONE;
            value = 0;
            return false;
        }

        /** From the last text to the first, so that a strike which is struck itself strikes nothing. */
        private void strikeClauses(int day) {
            Acts acts = county.acts;
            Arrays.fill(struck, 0);
            for (int t = acts.texts - 1; t >= 0; t--) {
                Text text = acts.text[t];
                if (text == null || text.strikes == 0 || acts.from[t] > day) {
                    continue;
                }
                for (int c = 0; c < text.clauses; c++) {
                    int target = text.value[c] / CLAUSES;
                    if (text.key[c] == STRIKE && (struck[t] >> c & 1) == 0 && target < t) {
                        struck[target] |= 1 << text.value[c] % CLAUSES;
                    }
                }
            }
        }

        int isInForce(int text, int clause, int day) {
            Acts acts = county.acts;
            if (text < 0 || text >= acts.texts || acts.text[text] == null
                    || isOutside(clause, 0, acts.text[text].clauses - 1)) {
                return NONE;
            }
            strikeClauses(day);
            return acts.from[text] <= day && (struck[text] >> clause & 1) == 0 ? 1 : 0;
        }

        private boolean isHolding(Text text, int clause) {
            int sumAt = text.at[2 * clause];
            int testAt = text.at[2 * clause + 1];
            int endAt = text.at[2 * clause + 2];
            if (testAt < endAt && reckon(text.code, testAt, endAt) != 1) {
                return false;
            }
            if (sumAt == testAt) {
                return true;
            }
            long reckoned = reckon(text.code, sumAt, testAt);
            sum = (int) reckoned;
            return reckoned != BROKEN;
        }

        /** What a row of code comes to, a test to 1 or 0; BROKEN as soon as one of its sums is. */
        private long reckon(int[] code, int from, int to) {
            int top = 0;
            for (int i = from; i < to; i++) {
                int op = code[i] & OP_MASK;
                int argument = code[i] >> ARGUMENT;
                if (op == OP_NUMBER || op == OP_WORD) {
                    if (top >= stack.length) {
                        return BROKEN;
                    }
                    stack[top] = op == OP_NUMBER ? argument : wordsValue(argument);
                    top++;
                } else if (top < 1) {
                    return BROKEN;
                } else if (op == OP_NOT) {
                    stack[top - 1] = 1 - stack[top - 1];
                } else if (op == OP_AND || op == OP_OR) {
                    if (stack[top - 1] == (op == OP_OR ? 1 : 0)) {
                        i = Math.max(i, argument - 1);
                    } else {
                        top--;
                    }
                } else {
                    top--;
                    if (top < 1) {
                        return BROKEN;
                    }
                    long joined = joinTwo(op, stack[top - 1], stack[top]);
                    if (joined == BROKEN) {
                        return BROKEN;
                    }
                    stack[top - 1] = joined;
                }
            }
            return top == 1 ? stack[0] : BROKEN;
        }

        private static long joinTwo(int op, long left, long right) {
            long joined;
            switch (op) {
                case OP_LESS: return left < right ? 1 : 0;
                case OP_MORE: return left > right ? 1 : 0;
                case OP_SAME: return left == right ? 1 : 0;
                case OP_ADD: joined = left + right; break;
                case OP_SUBTRACT: joined = left - right; break;
                case OP_MULTIPLY: joined = left * right; break;
                default: joined = right == 0 ? BROKEN : left / right; break;
            }
            return joined > GREATEST_SUM || joined < -GREATEST_SUM ? BROKEN : joined;
        }

        /** By the places in SUM_WORDS, then in TEST_WORDS. */
        private int wordsValue(int place) {
            People people = county.people;
            int day = askedHalf / 2;
            switch (place) {
                case 0: return people.born[askedChild];
                case 1: return askedMinutes;
                case 2: return askedHalf % 2;
                case 3: return day;
                case 4: return day / 7;
                case 5: return askedSchool;
                case 6: return sessionsAsked ? awayAhead[day] - awayAhead[Math.max(0, day - LOOKED_BACK)] : 0;
                case 7: return sessionsAsked ? possibleAhead[day] - possibleAhead[Math.max(0, day - LOOKED_BACK)] : 0;
                case 8: return people.carer[askedChild];
                case 9: return people.isWithin(askedChild, 0, day) ? 1 : 0;
                case 10: return people.hasFailed(people.route[askedChild], askedHalf) ? 1 : 0;
                default: return people.isWithin(askedChild, 1, day) ? 1 : 0;
            }
        }

        /** A child's sessions as known, as sums of all days ahead of each: a span is a difference then. */
        void tallyDays(int child, int known) {
            Marks marks = county.marks;
            Arrays.fill(awayAhead, 0);
            Arrays.fill(possibleAhead, 0);
            for (int m = 0; m < marks.marks; m++) {
                if (marks.child[m] == child && marks.countsAsKnown(m, known)) {
                    int kind = kindOf(m, known);
                    int behind = marks.half[m] / 2 + 1;
                    awayAhead[behind] += kind == AWAY ? 1 : 0;
                    possibleAhead[behind] += kind == WITHOUT ? 0 : 1;
                }
            }
            for (int d = 1; d <= DAYS; d++) {
                awayAhead[d] += awayAhead[d - 1];
                possibleAhead[d] += possibleAhead[d - 1];
            }
        }

        /** By the latest tallyDays(), of the days from .. to; from may lie ahead of all days. */
        private int awayWithin(int from, int to) {
            return awayAhead[to + 1] - awayAhead[Math.max(0, from)];
        }

        /** By the latest tallyDays(): the first day of from .. to on which a step is due. */
        int firstDueDay(int child, int step, int from, int to) {
            for (int day = from; day <= to; day++) {
                if (possibleAhead[day + 1] > possibleAhead[day]) {
                    askOfDay(child, day);
                    if (findLastThatHolds(STEP + step) && sum > 0 && awayWithin(day - value + 1, day) >= sum) {
                        return day;
                    }
                }
            }
            return NONE;
        }

        /** By the latest tallyDays(), which must have been as known then. */
        boolean isStanding(int child, int step, int known) {
            int before = NONE;
            for (int s = 0; s <= step; s++) {
                int taken = county.steps.taken[child * STEPS + s];
                if (taken == NONE || taken > known || firstDueDay(child, s, before + 1, taken) == NONE) {
                    return false;
                }
                before = taken;
            }
            return true;
        }

        /** By the latest tallyDays(); value is what "quick" tells then, 0 without a fine. */
        int wholeFine(int child, int step, int taken) {
            askOfDay(child, taken);
            return findLastThatHolds(FINE + step) ? Math.max(0, sum) : 0;
        }

        /** Of a school, or of all (NONE); of a child, or of all (NONE). */
        void countSessions(int school, int child, int from, int to, int known) {
            Marks marks = county.marks;
            possible = 0;
            away = 0;
            for (int m = 0; m < marks.marks; m++) {
                if ((school == NONE || marks.school[m] == school) && (child == NONE || marks.child[m] == child)
                        && !isOutside(marks.half[m], from, to) && marks.countsAsKnown(m, known)) {
                    int kind = kindOf(m, known);
                    away += kind == AWAY ? 1 : 0;
                    possible += kind == WITHOUT ? 0 : 1;
                }
            }
        }

        int rateNumber(int what) {
            int divisor = greatestDivisor(away, possible);
            switch (what) {
                case 0: return possible;
                case 1: return away;
                case 2: return divisor == 0 ? 0 : away / divisor;
                case 3: return divisor == 0 ? 1 : possible / divisor;
                default: return NONE;
            }
        }

        private static int greatestDivisor(int a, int b) {
            int greater = a;
            int smaller = b;
            for (int i = 0; i < MARKS && smaller != 0; i++) {
                int rest = greater % smaller;
                greater = smaller;
                smaller = rest;
            }
            return greater;
        }

        int lastSeen(int child, int day, int known) {
            Marks marks = county.marks;
            int latest = NONE;
            for (int m = 0; m < marks.marks; m++) {
                int half = marks.half[m];
                if (marks.child[m] == child && half > latest && half / 2 <= day && marks.countsAsKnown(m, known)
                        && isThere(kindOf(m, known))) {
                    latest = half;
                }
            }
            return latest;
        }

        private static boolean isThere(int kind) {
            return kind == HERE || kind == LATE;
        }

        /** Of each mark its kind as known, NONE if it doesn't count. */
        void noteKinds(int known) {
            for (int m = 0; m < county.marks.marks; m++) {
                kinds[m] = county.marks.countsAsKnown(m, known) ? kindOf(m, known) : NONE;
            }
        }

        int countChangedKinds(int known) {
            int changed = 0;
            for (int m = 0; m < county.marks.marks; m++) {
                if (kinds[m] != NONE && kinds[m] != kindOf(m, known)) {
                    changed++;
                }
            }
            return changed;
        }

        /** By the latest noteKinds(). */
        boolean isImpossible(int mark) {
            Marks marks = county.marks;
            if (!isThere(kinds[mark])) {
                return false;
            }
            int child = marks.child[mark];
            int half = marks.half[mark];
            if (kinds[mark] == HERE && marks.minutes[mark] == 0
                    && county.people.hasFailed(county.people.route[child], half)) {
                return true;
            }
            for (int m = 0; m < marks.marks; m++) {
                if (marks.half[m] == half && marks.child[m] == child && isThere(kinds[m])
                        && marks.school[m] != marks.school[mark]) {
                    return true;
                }
            }
            return false;
        }

        void countWeek(int week, int known) {
            Marks marks = county.marks;
            Arrays.fill(weekPossible, 0);
            Arrays.fill(weekAway, 0);
            for (int m = 0; m < marks.marks; m++) {
                if (marks.half[m] / 14 == week && marks.countsAsKnown(m, known)) {
                    int kind = kindOf(m, known);
                    weekAway[marks.school[m]] += kind == AWAY ? 1 : 0;
                    weekPossible[marks.school[m]] += kind == WITHOUT ? 0 : 1;
                }
            }
        }

        int schoolsLookedAt() {
            int looked = 0;
            for (int s = 0; s < SCHOOLS; s++) {
                looked += weekPossible[s] > 0 ? 1 : 0;
            }
            return looked;
        }

        int dippingSchools(int t) {
            long allPossible = 0;
            long allAway = 0;
            for (int s = 0; s < SCHOOLS; s++) {
                allPossible += weekPossible[s];
                allAway += weekAway[s];
            }
            long threshold = (long) t * t * schoolsLookedAt();
            int bits = 0;
            for (int s = 0; s < SCHOOLS; s++) {
                long beyond = weekAway[s] * allPossible - weekPossible[s] * allAway;
                long chance = weekPossible[s] * allAway * (allPossible - weekPossible[s]) * (allPossible - allAway);
                if (beyond > 0 && beyond * beyond * (allPossible - 1) > threshold * chance) {
                    bits |= 1 << s;
                }
            }
            return bits;
        }
    }

    /** What is best or counted among all ways to join, to go round, to draw. */
    private static final class Choices {
        private static final int SETS = 1 << JOINS;
        private static final int TOO_LONG = 1000000;

        private final People people;
        private final Lists lists;
        /** The latest join: of each missing its record. */
        final int[] row = new int[JOINS];
        int rowLength;
        int rivals = NONE;
        private final int[] like = new int[JOINS * JOINS];
        private final int[] joinScore = new int[(JOINS + 1) * SETS];
        private final int[] joinWays = new int[(JOINS + 1) * SETS];
        int roundBits;
        int roundWorth;
        int roundMinutes;
        private final int[] way = new int[VISITS * VISITS];
        private final int[] officeWay = new int[VISITS];
        /** Used for rounds (by visits and the last of them) and for draws (by who is drawn) alike. */
        private final int[] bySet = new int[(1 << VISITS) * VISITS];

        Choices(County county) {
            people = county.people;
            lists = county.lists;
        }

        private static int figuresAlike(int a, int b) {
            int alike = 0;
            int left = a;
            int right = b;
            for (int i = 0; i < FIGURES; i++) {
                alike += left % 10 == right % 10 ? 1 : 0;
                left /= 10;
                right /= 10;
            }
            return alike;
        }

        /** From the last missing to the first, by which records are used already; likeness weighs above how many join. */
        int bestJoin(int least) {
            int sets = 1 << lists.records;
            noteLikeness(least);
            for (int used = 0; used < sets; used++) {
                joinScore[lists.missed * SETS + used] = 0;
                joinWays[lists.missed * SETS + used] = 1;
            }
            for (int m = lists.missed - 1; m >= 0; m--) {
                for (int used = 0; used < sets; used++) {
                    weighJoins(m, used);
                }
            }
            keepFirstBest();
            return joinScore[0] / FIGURES;
        }

        private void noteLikeness(int least) {
            for (int m = 0; m < lists.missed; m++) {
                for (int r = 0; r < lists.records; r++) {
                    int alike = figuresAlike(lists.missingMarks[m], lists.recordMarks[r]);
                    like[m * JOINS + r] = alike < least ? NONE : alike;
                }
            }
        }

        private void weighJoins(int m, int used) {
            int place = m * SETS + used;
            int best = joinScore[place + SETS];
            int ways = joinWays[place + SETS];
            for (int r = 0; r < lists.records; r++) {
                int score = scoreWith(m, used, r);
                if (score > best) {
                    best = score;
                    ways = 0;
                }
                if (score == best) {
                    ways += joinWays[(m + 1) * SETS + (used | 1 << r)];
                }
            }
            joinScore[place] = best;
            joinWays[place] = ways;
        }

        /** The score from missing m on if it gets record r; NONE if it can't. */
        private int scoreWith(int m, int used, int r) {
            if ((used >> r & 1) == 1 || like[m * JOINS + r] == NONE) {
                return NONE;
            }
            return joinScore[(m + 1) * SETS + (used | 1 << r)] + like[m * JOINS + r] * FIGURES + 1;
        }

        private void keepFirstBest() {
            int used = 0;
            for (int m = 0; m < lists.missed; m++) {
                row[m] = NONE;
                for (int r = 0; r < lists.records && row[m] == NONE; r++) {
                    if (scoreWith(m, used, r) == joinScore[m * SETS + used]) {
                        row[m] = r;
                    }
                }
                used |= row[m] == NONE ? 0 : 1 << row[m];
            }
            rowLength = lists.missed;
            rivals = joinWays[0];
        }

        int likeOfRow(int sevens, int least) {
            int rest = sevens;
            int used = 0;
            int together = 0;
            for (int m = 0; m < lists.missed; m++) {
                int r = rest % 7 - 1;
                rest /= 7;
                if (r == NONE) {
                    continue;
                }
                if (r >= lists.records || (used >> r & 1) == 1) {
                    return NONE;
                }
                int alike = figuresAlike(lists.missingMarks[m], lists.recordMarks[r]);
                if (alike < least) {
                    return NONE;
                }
                used |= 1 << r;
                together += alike;
            }
            return rest == 0 ? together : NONE;
        }

        void bestRound(int x, int y, int n) {
            noteWays(x, y);
            roundBits = 0;
            roundWorth = 0;
            roundMinutes = 0;
            for (int set = 1; set < 1 << lists.visits; set++) {
                int minutes = fewestMinutes(set);
                int worth = minutes <= n ? worthOf(set) : NONE;
                if (worth > roundWorth || worth == roundWorth && minutes < roundMinutes) {
                    roundBits = set;
                    roundWorth = worth;
                    roundMinutes = minutes;
                }
            }
        }

        private void noteWays(int x, int y) {
            for (int v = 0; v < lists.visits; v++) {
                officeWay[v] = wayFrom(v, x, y);
                int child = lists.visitChild[v];
                for (int w = 0; w < lists.visits; w++) {
                    way[v * VISITS + w] = wayFrom(w, people.x[child], people.y[child]);
                }
            }
        }

        /** Also notes the fewest by each last visit, without the way back: greater sets are reckoned from it. */
        private int fewestMinutes(int set) {
            int fewest = TOO_LONG;
            for (int last = 0; last < lists.visits; last++) {
                int rest = set ^ 1 << last;
                if (rest > set) {
                    continue;
                }
                int before = rest == 0 ? officeWay[last] : TOO_LONG;
                int bits = rest;
                for (int v = 0; v < VISITS && bits != 0; v++) {
                    if ((bits & 1) == 1) {
                        int minutes = bySet[rest * VISITS + v] + way[v * VISITS + last];
                        before = minutes < before ? minutes : before;
                    }
                    bits >>= 1;
                }
                int minutes = before + lists.visitMinutes[last];
                bySet[set * VISITS + last] = minutes;
                fewest = Math.min(fewest, minutes + officeWay[last]);
            }
            return fewest;
        }

        private int wayFrom(int visit, int x, int y) {
            int child = lists.visitChild[visit];
            return Math.abs(people.x[child] - x) + Math.abs(people.y[child] - y);
        }

        private int worthOf(int set) {
            int worth = 0;
            for (int v = 0; v < lists.visits; v++) {
                worth += (set >> v & 1) * lists.visitWorth[v];
            }
            return worth;
        }

        /** Ways to draw as many as got it: all, or those that did at least as well. */
        int waysToDraw(boolean asWellAlone) {
            int got = 0;
            bySet[0] = 0;
            for (int i = 0; i < lists.drawn; i++) {
                got |= lists.drawnGot[i] << i;
                for (int set = 0; set < 1 << i; set++) {
                    bySet[1 << i | set] = bySet[set] + lists.drawnDid[i];
                }
            }
            int many = Integer.bitCount(got);
            int did = bySet[got];
            int ways = 0;
            for (int set = 0; set < 1 << lists.drawn; set++) {
                if ((!asWellAlone || bySet[set] >= did) && Integer.bitCount(set) == many) {
                    ways++;
                }
            }
            return ways;
        }
    }
}
