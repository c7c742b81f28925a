import java.math.BigInteger;
import java.util.ArrayList;
import java.util.HashMap;
import java.util.HashSet;
import java.util.List;
import java.util.Map;
import java.util.Set;

/**
 * The document read a second time, slowly: everything is kept as it was told and reckoned anew at each
 * question, by trying all ways. RandomTest holds HalfDays against it.
 */
final class Oracle {
    private static final int NONE = -1;

    private record Child(int born, boolean carer, int route, int x, int y) { }

    private record Roll(int child, int school, int first, int gone, int whither) { }

    private record Span(int child, int what, int from, int to) { }

    private record Mark(int school, int child, int half, int letter, int minutes, int known) { }

    private record Appeal(int letter, int known) { }

    private record Pair(int a, int b) { }

    private record Act(int from, List<OracleText.Clause> clauses) { }

    private record Paid(int day, int sum) { }

    private record Seal(int many, long sum, long places) { }

    private record Visit(int child, int minutes, int worth) { }

    private record Drawn(int child, int got, int did) { }

    /** All that an image keeps. */
    private static final class State {
        List<Child> children = new ArrayList<>();
        int schools;
        Set<Pair> shut = new HashSet<>();
        List<Roll> rolls = new ArrayList<>();
        Set<Pair> buses = new HashSet<>();
        List<Span> spans = new ArrayList<>();
        List<Mark> marks = new ArrayList<>();
        Map<Integer, Appeal> appeals = new HashMap<>();
        List<Act> acts = new ArrayList<>();
        Map<Pair, Integer> taken = new HashMap<>();
        Map<Pair, Paid> paid = new HashMap<>();
        List<Integer> records = new ArrayList<>();
        List<Pair> missing = new ArrayList<>();
        List<Visit> visits = new ArrayList<>();
        List<Drawn> drawn = new ArrayList<>();
        Map<Integer, Seal> seals = new HashMap<>();

        State copy() {
            State s = new State();
            s.children = new ArrayList<>(children);
            s.schools = schools;
            s.shut = new HashSet<>(shut);
            s.rolls = new ArrayList<>(rolls);
            s.buses = new HashSet<>(buses);
            s.spans = new ArrayList<>(spans);
            s.marks = new ArrayList<>(marks);
            s.appeals = new HashMap<>(appeals);
            s.acts = new ArrayList<>(acts);
            s.taken = new HashMap<>(taken);
            s.paid = new HashMap<>(paid);
            s.records = new ArrayList<>(records);
            s.missing = new ArrayList<>(missing);
            s.visits = new ArrayList<>(visits);
            s.drawn = new ArrayList<>(drawn);
            s.seals = new HashMap<>(seals);
            return s;
        }
    }

    private State st = new State();
    private final State[] kept = new State[2];
    private final StringBuilder tape = new StringBuilder();
    private int fault = NONE;
    private int status;
    private int[] latestRow = new int[0];
    private int latestRivals = NONE;

    private int say(int n) {
        status = n < 0 ? n : 0;
        return n;
    }

    private static boolean day(int d) {
        return 0 <= d && d <= 399;
    }

    private static boolean half(int h) {
        return 0 <= h && h <= 799;
    }

    private static boolean in(int n, int a, int b) {
        return a <= n && n <= b;
    }

    private boolean isChild(int c) {
        return in(c, 0, st.children.size() - 1);
    }

    private boolean isSchool(int s) {
        return in(s, 0, st.schools - 1);
    }

    int child(int born, boolean carer, int route, int x, int y) {
        if (!in(born, 3, 18) || !in(route, -1, 7) || !in(x, 0, 99) || !in(y, 0, 99)) return say(-1);
        if (st.children.size() == 40) return say(-5);
        st.children.add(new Child(born, carer, route, x, y));
        return say(st.children.size() - 1);
    }

    int school() {
        if (st.schools == 5) return say(-5);
        return say(st.schools++);
    }

    int shut(int school, int day) {
        if (!day(day)) return say(-1);
        if (!isSchool(school)) return say(-2);
        return say(st.shut.add(new Pair(school, day)) ? 0 : -4);
    }

    private boolean on(int child, int school, int day) {
        for (Roll r : st.rolls) {
            if (r.child == child && r.school == school && r.first <= day && day < r.gone) return true;
        }
        return false;
    }

    int comes(int child, int school, int day) {
        if (!day(day)) return say(-1);
        if (!isChild(child) || !isSchool(school)) return say(-2);
        if (on(child, school, day)) return say(-3);
        for (Roll r : st.rolls) {
            if (r.child == child && r.school == school && r.first >= day) return say(-3);
        }
        if (st.rolls.size() == 120) return say(-5);
        st.rolls.add(new Roll(child, school, day, Integer.MAX_VALUE, NONE));
        return say(st.rolls.size());
    }

    int goes(int child, int school, int day, int whither) {
        if (!day(day) || whither != NONE && !isSchool(whither)) return say(-1);
        if (!isChild(child) || !isSchool(school)) return say(-2);
        for (int i = 0; i < st.rolls.size(); i++) {
            Roll r = st.rolls.get(i);
            if (r.child == child && r.school == school && r.gone == Integer.MAX_VALUE) {
                if (day < r.first) return say(-3);
                st.rolls.set(i, new Roll(child, school, r.first, day, whither));
                return say(0);
            }
        }
        return say(-3);
    }

    int isOn(int child, int school, int day) {
        if (!day(day) || !isChild(child) || !isSchool(school)) return NONE;
        return on(child, school, day) ? 1 : 0;
    }

    int failed(int route, int half) {
        if (!in(route, 0, 7) || !half(half)) return say(-1);
        Pair p = new Pair(route, half);
        if (st.buses.contains(p)) return say(-4);
        if (st.buses.size() == 60) return say(-5);
        st.buses.add(p);
        return say(st.buses.size());
    }

    int has(int child, int what, int from, int to) {
        if (!in(what, 0, 1) || !day(from) || !day(to) || from > to) return say(-1);
        if (!isChild(child)) return say(-2);
        long many = st.spans.stream().filter(s -> s.what == what).count();
        if (many == 60) return say(-5);
        st.spans.add(new Span(child, what, from, to));
        return say((int) many + 1);
    }

    private boolean within(int child, int what, int day) {
        return st.spans.stream().anyMatch(s -> s.child == child && s.what == what && s.from <= day && day <= s.to);
    }

    int mark(int school, int child, int half, int letter, int minutes, int known) {
        if (!half(half) || !in(letter, 0, 25) || !in(minutes, 0, 300) || !day(known)) return say(-1);
        if (!isChild(child) || !isSchool(school)) return say(-2);
        int d = half / 2;
        if (d % 7 == 5 || d % 7 == 6 || st.shut.contains(new Pair(school, d)) || !on(child, school, d)) return say(-3);
        if (st.marks.size() == 400) return say(-5);
        st.marks.add(new Mark(school, child, half, letter, minutes, known));
        return say(st.marks.size() - 1);
    }

    int appeal(int mark, int letter, int known) {
        if (!in(letter, 0, 25) || !day(known)) return say(-1);
        if (!in(mark, 0, st.marks.size() - 1)) return say(-2);
        if (st.appeals.containsKey(mark)) return say(-4);
        st.appeals.put(mark, new Appeal(letter, known));
        return say(0);
    }

    private int counting(int school, int child, int half, int known) {
        int found = NONE;
        for (int i = 0; i < st.marks.size(); i++) {
            Mark m = st.marks.get(i);
            if (m.school == school && m.child == child && m.half == half && m.known <= known) found = i;
        }
        return found;
    }

    private boolean counts(int mark, int known) {
        Mark m = st.marks.get(mark);
        return counting(m.school, m.child, m.half, known) == mark;
    }

    private int letter(int mark, int known) {
        Appeal a = st.appeals.get(mark);
        return a != null && a.known <= known ? a.letter : st.marks.get(mark).letter;
    }

    private boolean inForce(int text, int clause, int day) {
        if (st.acts.get(text).from > day) return false;
        for (int t = text + 1; t < st.acts.size(); t++) {
            List<OracleText.Clause> cs = st.acts.get(t).clauses;
            for (int c = 0; c < cs.size(); c++) {
                OracleText.Clause k = cs.get(c);
                if (k.head().equals("strike") && k.a() == text && k.b() == clause && inForce(t, c, day)) return false;
            }
        }
        return true;
    }

    /** What an act is asked of. */
    private final class Asked implements OracleText.Asked {
        final int child;
        final int half;
        final int mark;
        final int known;

        Asked(int child, int half, int mark, int known) {
            this.child = child;
            this.half = half;
            this.mark = mark;
            this.known = known;
        }

        public long word(String w) {
            Child c = st.children.get(child);
            int d = half / 2;
            switch (w) {
                case "born": return c.born;
                case "minutes": return mark == NONE ? 0 : st.marks.get(mark).minutes;
                case "school": return mark == NONE ? 0 : st.marks.get(mark).school;
                case "half": return half % 2;
                case "day": return d;
                case "week": return d / 7;
                case "away": return mark != NONE ? 0 : sessions(child, NONE, 2 * (d - 84), 2 * d - 1, known, true);
                case "possible": return mark != NONE ? 0 : sessions(child, NONE, 2 * (d - 84), 2 * d - 1, known, false);
                case "carer": return c.carer ? 1 : 0;
                case "part": return within(child, 0, d) ? 1 : 0;
                case "home": return within(child, 1, d) ? 1 : 0;
                case "bus": return c.route != NONE && st.buses.contains(new Pair(c.route, half)) ? 1 : 0;
                default: throw new IllegalStateException(w);
            }
        }
    }

    private record Held(int text, int clause, OracleText.Clause read, long sum) { }

    private Held lastHeld(String head, int a, int b, Asked asked) {
        Held last = null;
        for (int t = 0; t < st.acts.size(); t++) {
            List<OracleText.Clause> cs = st.acts.get(t).clauses;
            for (int c = 0; c < cs.size(); c++) {
                OracleText.Clause k = cs.get(c);
                if (!k.head().equals(head) || k.a() != a || b != NONE && k.b() != b) continue;
                if (!inForce(t, c, asked.half / 2)) continue;
                try {
                    if (k.test() != null && k.test().of(asked) == 0) continue;
                    last = new Held(t, c, k, k.sum() == null ? 0 : k.sum().of(asked));
                } catch (OracleText.Broken e) {
                    continue;
                }
            }
        }
        return last;
    }

    private int kind(int mark, int known) {
        Mark m = st.marks.get(mark);
        Held h = lastHeld("code", letter(mark, known), NONE, new Asked(m.child, m.half, mark, known));
        return h == null ? 4 : h.read.b();
    }

    private int sessions(int child, int school, int from, int to, int known, boolean away) {
        int many = 0;
        for (int i = 0; i < st.marks.size(); i++) {
            Mark m = st.marks.get(i);
            if (child != NONE && m.child != child || school != NONE && m.school != school) continue;
            if (m.half < from || m.half > to || !counts(i, known)) continue;
            int k = kind(i, known);
            if (away ? k == 3 : k != 4) many++;
        }
        return many;
    }

    int tells(int school, int child, int half, int known, int what) {
        if (!half(half) || !day(known) || !isChild(child) || !isSchool(school) || !in(what, 0, 4)) return NONE;
        int mark = counting(school, child, half, known);
        if (mark == NONE) return NONE;
        switch (what) {
            case 0: return mark;
            case 1: return letter(mark, known);
            case 2: return st.marks.get(mark).minutes;
            case 3: return kind(mark, known);
            default:
                Held h = lastHeld("code", letter(mark, known), NONE, new Asked(child, half, mark, known));
                return h == null ? NONE : h.text * 12 + h.clause;
        }
    }

    int sees(int role, int school, int child, int half, int known) {
        if (!in(role, 0, 3) || !half(half) || !day(known) || !isChild(child) || !isSchool(school)) return NONE;
        int mark = counting(school, child, half, known);
        if (mark == NONE) return NONE;
        int letter = letter(mark, known);
        return lastHeld("shut", letter, role, new Asked(child, half, mark, known)) != null ? -3 : letter;
    }

    int feed(int a, int b, int c, int d, int e) {
        if (tape.length() + 20 > 400) return NONE;
        for (int n : new int[] {a, b, c, d, e}) {
            for (int i = 3; i >= 0; i--) {
                tape.append((char) (n >>> 8 * i & 255));
            }
        }
        return tape.length();
    }

    int end(int n) {
        if (n < 0 || n > tape.length()) return NONE;
        tape.setLength(n);
        return n;
    }

    /** The tape's clauses, or null. */
    private List<OracleText.Clause> read() {
        OracleText text = new OracleText(tape.toString());
        List<OracleText.Clause> clauses = text.read();
        fault = text.fault();
        tape.setLength(0);
        return clauses;
    }

    int act(int from) {
        if (!day(from)) return say(-1);
        if (st.acts.size() == 20) return say(-5);
        List<OracleText.Clause> clauses = read();
        if (clauses == null) return say(-6);
        st.acts.add(new Act(from, clauses));
        return say(st.acts.size() - 1);
    }

    int fault() {
        return fault;
    }

    int force(int text, int clause, int day) {
        if (!day(day) || !in(text, 0, st.acts.size() - 1)) return NONE;
        if (!in(clause, 0, st.acts.get(text).clauses.size() - 1)) return NONE;
        return inForce(text, clause, day) ? 1 : 0;
    }

    private int rated(int child, int school, int from, int to, int known, int what) {
        int away = sessions(child, school, from, to, known, true);
        int possible = sessions(child, school, from, to, known, false);
        int g = BigInteger.valueOf(away).gcd(BigInteger.valueOf(possible)).intValue();
        switch (what) {
            case 0: return possible;
            case 1: return away;
            case 2: return possible == 0 ? 0 : away / g;
            default: return possible == 0 ? 1 : possible / g;
        }
    }

    int rate(int child, int from, int to, int known, int what) {
        if (!half(from) || !half(to) || from > to || !day(known) || !isChild(child) || !in(what, 0, 3)) return NONE;
        return rated(child, NONE, from, to, known, what);
    }

    int dip(int school, int from, int to, int known, int what) {
        if (!half(from) || !half(to) || from > to || !day(known) || !isSchool(school) || !in(what, 0, 3)) return NONE;
        return rated(NONE, school, from, to, known, what);
    }

    private boolean dueOn(int child, int step, int d, int known) {
        if (sessions(child, NONE, 2 * d, 2 * d + 1, known, false) == 0) return false;
        Held h = lastHeld("step", step, NONE, new Asked(child, 2 * d, NONE, known));
        if (h == null || h.sum <= 0) return false;
        return sessions(child, NONE, 2 * (d - h.read.b() + 1), 2 * d + 1, known, true) >= h.sum;
    }

    private int dueFrom(int child, int step, int from, int known) {
        for (int d = from; d < 400; d++) {
            if (dueOn(child, step, d, known)) return d;
        }
        return NONE;
    }

    int due(int child, int step, int from, int known) {
        if (!in(step, 0, 3) || !day(from) || !day(known) || !isChild(child)) return NONE;
        return dueFrom(child, step, from, known);
    }

    private boolean dueBy(int child, int step, int day, int known) {
        int from = 0;
        if (step > 0) {
            Integer before = st.taken.get(new Pair(child, step - 1));
            if (before == null || before > day) return false;
            from = before + 1;
        }
        int due = dueFrom(child, step, from, known);
        return due != NONE && due <= day;
    }

    int take(int child, int step, int day) {
        if (!in(step, 0, 3) || !day(day)) return say(-1);
        if (!isChild(child)) return say(-2);
        if (!dueBy(child, step, day, day)) return say(-3);
        if (st.taken.containsKey(new Pair(child, step))) return say(-4);
        st.taken.put(new Pair(child, step), day);
        return say(0);
    }

    private boolean standing(int child, int step, int known) {
        Integer taken = st.taken.get(new Pair(child, step));
        if (taken == null || taken > known) return false;
        if (step > 0 && !standing(child, step - 1, known)) return false;
        return dueBy(child, step, taken, known);
    }

    int stands(int child, int step, int known) {
        if (!in(step, 0, 3) || !day(known) || !isChild(child)) return NONE;
        return standing(child, step, known) ? 1 : 0;
    }

    private Held fineHeld(int child, int step) {
        int taken = st.taken.get(new Pair(child, step));
        return lastHeld("fine", step, NONE, new Asked(child, 2 * taken, NONE, taken));
    }

    int pay(int child, int step, int day) {
        if (!in(step, 0, 3) || !day(day)) return say(-1);
        if (!isChild(child)) return say(-2);
        Pair p = new Pair(child, step);
        Integer taken = st.taken.get(p);
        if (taken == null || taken > day) return say(-3);
        if (st.paid.containsKey(p)) return say(-4);
        Held h = fineHeld(child, step);
        int sum = h == null ? 0 : (int) Math.max(0, h.sum);
        if (h != null && day <= taken + h.read.b() - 1) sum = sum / 2;
        st.paid.put(p, new Paid(day, sum));
        return say(sum);
    }

    int fine(int child, int step, int known, int what) {
        if (!in(step, 0, 3) || !day(known) || !isChild(child) || !in(what, 0, 2)) return NONE;
        Pair p = new Pair(child, step);
        Integer taken = st.taken.get(p);
        if (taken == null || taken > known) return NONE;
        Held h = fineHeld(child, step);
        int fine = h == null ? 0 : (int) Math.max(0, h.sum);
        Paid paid = st.paid.get(p);
        if (paid != null && paid.day > known) paid = null;
        boolean stands = standing(child, step, known);
        if (what == 0) return fine;
        if (what == 1) return stands && paid == null ? fine : 0;
        return !stands && paid != null ? paid.sum : 0;
    }

    int off(int child, int day, int known) {
        if (!day(day) || !day(known) || !isChild(child)) return NONE;
        return lastHeld("off", 0, NONE, new Asked(child, 2 * day, NONE, known)) != null ? 1 : 0;
    }

    private int ith(List<Integer> list, int i) {
        if (i == NONE) return list.size();
        return in(i, 0, list.size() - 1) ? list.get(i) : NONE;
    }

    private boolean lost(int child, int day) {
        for (Roll r : st.rolls) {
            if (r.child != child || r.whither == NONE || r.gone > day) continue;
            boolean arrived = false;
            for (int d = r.gone; d <= day; d++) {
                arrived |= on(child, r.whither, d);
            }
            if (!arrived) return true;
        }
        return false;
    }

    int rolls(int day, int what, int i) {
        if (!day(day) || !in(what, 0, 2)) return NONE;
        List<Integer> list = new ArrayList<>();
        for (int c = 0; c < st.children.size(); c++) {
            int on = 0;
            for (int s = 0; s < 5; s++) {
                if (on(c, s, day)) on++;
            }
            boolean schoolAge = in(st.children.get(c).born, 5, 16);
            boolean is = what == 0 ? on == 0 && schoolAge && !within(c, 1, day) : what == 1 ? on > 1 : lost(c, day);
            if (is) list.add(c);
        }
        return ith(list, i);
    }

    int seen(int child, int day, int known) {
        if (!day(day) || !day(known) || !isChild(child)) return NONE;
        for (int h = 2 * day + 1; h >= 0; h--) {
            for (int s = 0; s < 5; s++) {
                int m = counting(s, child, h, known);
                if (m != NONE && kind(m, known) <= 1) return h;
            }
        }
        return NONE;
    }

    int record(int marks) {
        if (!in(marks, 0, 99999999)) return say(-1);
        if (st.records.size() == 6) return say(-5);
        st.records.add(marks);
        return say(st.records.size());
    }

    int missing(int child, int marks) {
        if (!in(marks, 0, 99999999)) return say(-1);
        if (!isChild(child)) return say(-2);
        if (st.missing.stream().anyMatch(p -> p.a == child)) return say(-4);
        if (st.missing.size() == 6) return say(-5);
        st.missing.add(new Pair(child, marks));
        return say(st.missing.size());
    }

    private int like(int missing, int record) {
        String a = String.format("%08d", st.missing.get(missing).b);
        String b = String.format("%08d", st.records.get(record));
        int same = 0;
        for (int i = 0; i < 8; i++) {
            if (a.charAt(i) == b.charAt(i)) same++;
        }
        return same;
    }

    private int[][] likes;
    private int bestLike;
    private int bestJoined;
    private int ways;
    private int[] bestRow;

    private void tryRows(int i, int[] row, int used, int like, int joined) {
        if (i == row.length) {
            if (like > bestLike || like == bestLike && joined > bestJoined) {
                bestLike = like;
                bestJoined = joined;
                ways = 0;
                bestRow = row.clone();
            }
            if (like == bestLike && joined == bestJoined) ways++;
            return;
        }
        for (int r = 0; r < st.records.size(); r++) {
            if ((used & 1 << r) == 0 && likes[i][r] >= 0) {
                row[i] = r;
                tryRows(i + 1, row, used | 1 << r, like + likes[i][r], joined + 1);
            }
        }
        row[i] = NONE;
        tryRows(i + 1, row, used, like, joined);
    }

    int join(int least) {
        if (!in(least, 0, 8)) return NONE;
        likes = new int[st.missing.size()][st.records.size()];
        for (int m = 0; m < st.missing.size(); m++) {
            for (int r = 0; r < st.records.size(); r++) {
                likes[m][r] = like(m, r) < least ? NONE : like(m, r);
            }
        }
        bestLike = -1;
        bestJoined = -1;
        tryRows(0, new int[st.missing.size()], 0, 0, 0);
        latestRow = bestRow;
        latestRivals = ways;
        return bestLike;
    }

    int joined(int i) {
        if (i == NONE) return latestRivals;
        return in(i, 0, latestRow.length - 1) ? latestRow[i] : NONE;
    }

    int judge(int row, int least) {
        if (row < 0 || !in(least, 0, 8)) return NONE;
        Set<Integer> used = new HashSet<>();
        int sum = 0;
        int m = 0;
        for (long n = row; n > 0; n /= 7, m++) {
            int r = (int) (n % 7) - 1;
            if (r == NONE) continue;
            if (m >= st.missing.size() || r >= st.records.size() || !used.add(r) || like(m, r) < least) return NONE;
            sum += like(m, r);
        }
        return sum;
    }

    int cannot(int from, int to, int known, int i) {
        if (!half(from) || !half(to) || from > to || !day(known)) return NONE;
        List<Integer> list = new ArrayList<>();
        for (int m = 0; m < st.marks.size(); m++) {
            Mark k = st.marks.get(m);
            if (!in(k.half, from, to) || !counts(m, known) || kind(m, known) > 1) continue;
            boolean cannot = kind(m, known) == 0 && k.minutes == 0
                    && st.buses.contains(new Pair(st.children.get(k.child).route, k.half));
            for (int s = 0; s < 5; s++) {
                int other = s == k.school ? NONE : counting(s, k.child, k.half, known);
                cannot |= other != NONE && kind(other, known) <= 1;
            }
            if (cannot) list.add(m);
        }
        return ith(list, i);
    }

    int visit(int child, int minutes, int worth) {
        if (!in(minutes, 1, 200) || !in(worth, 1, 1000)) return say(-1);
        if (!isChild(child)) return say(-2);
        if (st.visits.size() == 9) return say(-5);
        st.visits.add(new Visit(child, minutes, worth));
        return say(st.visits.size());
    }

    private int[] shortest;

    private void walk(int set, int minutes, int x, int y, int officeX, int officeY, int worst) {
        int home = minutes + Math.abs(x - officeX) + Math.abs(y - officeY);
        if (home > worst) return;
        shortest[set] = Math.min(shortest[set], home);
        for (int v = 0; v < st.visits.size(); v++) {
            if ((set & 1 << v) != 0) continue;
            Visit t = st.visits.get(v);
            Child c = st.children.get(t.child);
            walk(set | 1 << v, minutes + Math.abs(x - c.x) + Math.abs(y - c.y) + t.minutes, c.x, c.y, officeX, officeY, worst);
        }
    }

    int round(int x, int y, int n, int what) {
        if (!in(x, 0, 99) || !in(y, 0, 99) || !in(n, 0, 2000) || !in(what, 0, 2)) return NONE;
        shortest = new int[1 << st.visits.size()];
        java.util.Arrays.fill(shortest, Integer.MAX_VALUE);
        walk(0, 0, x, y, x, y, n);
        int best = 0;
        for (int set = 0; set < shortest.length; set++) {
            if (shortest[set] > n) continue;
            int a = worth(set);
            int b = worth(best);
            if (a > b || a == b && shortest[set] < shortest[best]) best = set;
        }
        return what == 0 ? best : what == 1 ? worth(best) : shortest[best];
    }

    private int worth(int set) {
        int sum = 0;
        for (int v = 0; v < st.visits.size(); v++) {
            if ((set & 1 << v) != 0) sum += st.visits.get(v).worth;
        }
        return sum;
    }

    int dips(int week, int known, int t, int what) {
        if (!in(week, 0, 57) || !day(known) || !in(t, 1, 20) || !in(what, 0, 1)) return NONE;
        int from = 14 * week;
        int to = 14 * week + 13;
        int looked = 0;
        BigInteger bigN = BigInteger.ZERO;
        BigInteger bigX = BigInteger.ZERO;
        for (int s = 0; s < st.schools; s++) {
            int n = sessions(NONE, s, from, to, known, false);
            if (n > 0) looked++;
            bigN = bigN.add(BigInteger.valueOf(n));
            bigX = bigX.add(BigInteger.valueOf(sessions(NONE, s, from, to, known, true)));
        }
        if (what == 1) return looked;
        int bits = 0;
        for (int s = 0; s < st.schools; s++) {
            BigInteger n = BigInteger.valueOf(sessions(NONE, s, from, to, known, false));
            BigInteger x = BigInteger.valueOf(sessions(NONE, s, from, to, known, true));
            if (n.signum() == 0) continue;
            BigInteger off = x.multiply(bigN).subtract(n.multiply(bigX));
            if (off.signum() <= 0) continue;
            BigInteger left = off.multiply(off).multiply(bigN.subtract(BigInteger.ONE));
            BigInteger right = BigInteger.valueOf((long) t * t * looked).multiply(n).multiply(bigX)
                    .multiply(bigN.subtract(n)).multiply(bigN.subtract(bigX));
            if (left.compareTo(right) > 0) bits |= 1 << s;
        }
        return bits;
    }

    int draw(int child, int got, int did) {
        if (!in(got, 0, 1) || !in(did, -100, 100)) return say(-1);
        if (!isChild(child)) return say(-2);
        if (st.drawn.stream().anyMatch(d -> d.child == child)) return say(-4);
        if (st.drawn.size() == 12) return say(-5);
        st.drawn.add(new Drawn(child, got, did));
        return say(st.drawn.size());
    }

    private void drawWays(int i, int left, int sum, int least, int[] found) {
        if (i == st.drawn.size()) {
            if (left == 0) {
                found[1]++;
                if (sum >= least) found[0]++;
            }
            return;
        }
        drawWays(i + 1, left, sum, least, found);
        drawWays(i + 1, left - 1, sum + st.drawn.get(i).did, least, found);
    }

    int helped(int what) {
        if (!in(what, 0, 1)) return NONE;
        int got = 0;
        int sum = 0;
        for (Drawn d : st.drawn) {
            got += d.got;
            sum += d.got * d.did;
        }
        int[] found = new int[2];
        drawWays(0, got, 0, sum, found);
        return found[what];
    }

    int beside(int from, int known) {
        if (!day(from) || !day(known) || st.acts.size() == 20) return NONE;
        List<OracleText.Clause> clauses = read();
        if (clauses == null) return NONE;
        int[] before = new int[st.marks.size()];
        for (int m = 0; m < before.length; m++) {
            before[m] = kind(m, known);
        }
        st.acts.add(new Act(from, clauses));
        int changed = 0;
        for (int m = 0; m < before.length; m++) {
            if (counts(m, known) && before[m] != kind(m, known)) changed++;
        }
        st.acts.remove(st.acts.size() - 1);
        return changed;
    }

    private Seal sealOf(int day) {
        int many = 0;
        long sum = 0;
        long places = 0;
        for (Mark m : st.marks) {
            if (m.half / 2 != day) continue;
            many++;
            sum += 26 * m.minutes + m.letter;
            places += (long) many * (26 * m.minutes + m.letter);
        }
        return new Seal(many, sum, places);
    }

    int seal(int day) {
        if (!day(day)) return say(-1);
        st.seals.put(day, sealOf(day));
        return say(st.seals.get(day).many);
    }

    int alter(int mark, int mask) {
        if (!in(mask, 1, 7)) return say(-1);
        if (!in(mark, 0, st.marks.size() - 1)) return say(-2);
        Mark m = st.marks.get(mark);
        int number = 26 * m.minutes + m.letter ^ mask;
        st.marks.set(mark, new Mark(m.school, m.child, m.half, number % 26, number / 26, m.known));
        return say(number);
    }

    int found(int day) {
        Seal then = st.seals.get(day);
        if (then == null) return -3;
        Seal now = sealOf(day);
        if (now.sum == then.sum && now.places == then.places) return NONE;
        if (now.many > then.many) return -2;
        int place = 0;
        for (int m = 0; m < st.marks.size(); m++) {
            if (st.marks.get(m).half / 2 != day) continue;
            place++;
            if (now.sum != then.sum && now.places - place * (now.sum - then.sum) == then.places) return m;
        }
        return -2;
    }

    int image(int k) {
        if (!in(k, 0, 1)) return say(-1);
        kept[k] = st.copy();
        return say(0);
    }

    int back(int k) {
        if (!in(k, 0, 1)) return say(-1);
        if (kept[k] == null) return say(-2);
        st = kept[k].copy();
        return say(0);
    }

    int count(int what) {
        int[] counts = {st.children.size(), st.schools, st.rolls.size(), st.marks.size(), st.acts.size(),
            st.records.size(), st.missing.size(), st.visits.size(), st.drawn.size(), tape.length()};
        return in(what, 0, 9) ? counts[what] : NONE;
    }

    int status() {
        return status;
    }
}
