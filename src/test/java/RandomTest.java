import java.util.ArrayList;
import java.util.List;
import java.util.Random;

/** Random runs of 512 calls, each answer held against the oracle's. */
public final class RandomTest {
    private static final int CALLS = 512;

    private final Random r;
    private final HalfDays x = new HalfDays();
    private final Oracle o = new Oracle();
    private final List<String> log = new ArrayList<>();
    private final List<int[]> marked = new ArrayList<>();
    private final int days;
    /** 0: rolls change much; 1, 2: marks and steps; 3: lists, rounds, draws. */
    private final int style;
    private int calls;
    private boolean wrong;

    private RandomTest(long seed) {
        r = new Random(seed);
        int[] reaches = {3, 8, 20, 100, 400};
        days = reaches[r.nextInt(reaches.length)];
        style = r.nextInt(4);
    }

    public static void main(String[] args) {
        int runs = args.length > 0 ? Integer.parseInt(args[0]) : 400;
        long first = args.length > 1 ? Long.parseLong(args[1]) : 1;
        int bad = 0;
        long calls = 0;
        for (long seed = first; seed < first + runs && bad < 3; seed++) {
            RandomTest run = new RandomTest(seed);
            run.go();
            calls += run.calls;
            if (run.wrong) {
                bad++;
                System.out.println("seed " + seed + ":");
                for (String line : run.log) {
                    System.out.println("  " + line);
                }
            }
        }
        System.out.println("RandomTest: " + runs + " runs, " + calls + " calls, " + bad + " runs not as due");
        if (bad != 0) {
            System.exit(1);
        }
    }

    private void due(String call, int got, int want) {
        calls++;
        log.add(call + " " + got + (got == want ? "" : " due is " + want));
        if (got != want) {
            wrong = true;
        }
    }

    private int day() {
        return r.nextInt(60) == 0 ? (r.nextBoolean() ? 400 : -1) : r.nextInt(days);
    }

    private int half() {
        return r.nextInt(60) == 0 ? (r.nextBoolean() ? 800 : -1) : r.nextInt(2 * days);
    }

    private int known() {
        return r.nextInt(3) == 0 ? Math.min(399, days) : day();
    }

    private int of(int count) {
        return r.nextInt(40) == 0 ? (r.nextBoolean() ? count : r.nextInt(50) - 3) : r.nextInt(Math.max(1, count));
    }

    private int child() {
        return r.nextInt(3) == 0 ? of(o.count(0)) : of(Math.min(o.count(0), 3));
    }

    private int school() {
        return of(o.count(1));
    }

    private int number(int least, int most) {
        return r.nextInt(50) == 0 ? (r.nextBoolean() ? least - 1 : most + 1) : least + r.nextInt(most - least + 1);
    }

    private int letter() {
        return r.nextInt(10) == 0 ? number(0, 25) : r.nextInt(4);
    }

    private int minutes() {
        return r.nextInt(2) == 0 ? 0 : number(0, 300);
    }

    private void go() {
        for (int i = 0; i < (style == 3 ? 13 : 4); i++) {
            tellChild();
        }
        for (int i = 0; i < 2; i++) {
            due("school()", x.school(), o.school());
        }
        for (int i = 0; i < 6; i++) {
            comes(i % 3, i / 3, r.nextInt(9) == 0 ? 1 : 0);
        }
        if (style == 1 || style == 2) {
            feed("code a here;code b late;code c allowed;code d away;step 0 " + (1 + r.nextInt(3)) + " in " + (1 + r.nextInt(9))
                    + ";step 1 1 in 5;step 2 2 in 9;fine 0 " + r.nextInt(99) + " quick 3;fine 1 [away+2]*7 quick 2");
        } else {
            feedText();
        }
        act(0);
        while (calls < CALLS && !wrong) {
            step();
            if (r.nextInt(4) == 0) {
                due("status()", x.status(), o.status());
            }
        }
    }

    private void tellChild() {
        int a = number(3, 18), b = number(-1, 7), c = number(0, 99), d = number(0, 99);
        boolean carer = r.nextBoolean();
        due("child(" + a + "," + carer + "," + b + "," + c + "," + d + ")", x.child(a, carer, b, c, d), o.child(a, carer, b, c, d));
    }

    private void comes(int c, int s, int d) {
        due("comes(" + c + "," + s + "," + d + ")", x.comes(c, s, d), o.comes(c, s, d));
    }

    private void act(int from) {
        due("act(" + from + ")", x.act(from), o.act(from));
        due("fault()", x.fault(), o.fault());
    }

    private void feedText() {
        feed(Texts.random(r, o.count(4)));
    }

    private void feed(String text) {
        if (r.nextInt(20) != 0) {
            due("end(0)", x.end(0), o.end(0));
        }
        int behind = o.count(9);
        for (int from = 0; from < text.length(); from += 20) {
            int[] n = Texts.numbers(text, from);
            due("feed(" + text.substring(from, Math.min(text.length(), from + 20)) + ")",
                    x.feed(n[0], n[1], n[2], n[3], n[4]), o.feed(n[0], n[1], n[2], n[3], n[4]));
        }
        int n = behind + text.length();
        due("end(" + n + ")", x.end(n), o.end(n));
    }

    private void step() {
        int turn = r.nextInt(100);
        if (turn < (style == 3 ? 5 : 30)) {
            tellMark();
        } else if (turn < (style == 0 ? 45 : style == 3 ? 20 : 33)) {
            tell(r.nextInt(16));
        } else if (turn < (style == 3 ? 50 : 36)) {
            tell(style == 3 ? 10 + r.nextInt(4) : 8 + r.nextInt(2));
        } else if (turn < 53 && style != 3) {
            steps(r.nextInt(7));
        } else if (turn < 56) {
            feedText();
            if (r.nextInt(3) == 0) {
                int d = day(), k = known();
                due("beside(" + d + "," + k + ")", x.beside(d, k), o.beside(d, k));
                due("fault()", x.fault(), o.fault());
            } else {
                act(r.nextInt(3) == 0 ? day() : 0);
            }
        } else {
            ask(style == 3 && r.nextBoolean() ? new int[] {11, 12, 15, 17}[r.nextInt(4)] : r.nextInt(20));
        }
    }

    private void tellMark() {
        int s = school(), c = child(), h = half(), l = letter(), m = minutes(), k = r.nextBoolean() ? 0 : day();
        if (style != 0 && r.nextInt(20) != 0) {
            s = r.nextInt(4) / 3;
            c = r.nextInt(3);
            l = r.nextBoolean() ? 3 : r.nextInt(4);
        }
        if (!marked.isEmpty() && r.nextInt(5) == 0) {
            int[] old = marked.get(r.nextInt(marked.size()));
            s = r.nextBoolean() ? old[0] : s;
            c = old[1];
            h = old[2];
        }
        for (int i = 0; i < 5 && h / 2 % 7 >= 5; i++) {
            h = half();
        }
        int got = x.mark(s, c, h, l, m, k);
        due("mark(" + s + "," + c + "," + h + "," + l + "," + m + "," + k + ")", got, o.mark(s, c, h, l, m, k));
        if (got >= 0) {
            marked.add(new int[] {s, c, h});
        }
    }

    private void tell(int which) {
        int c = child(), s = school(), d = day(), n;
        switch (which) {
            case 0: tellChild(); break;
            case 1: due("school()", x.school(), o.school()); break;
            case 2: due("shut(" + s + "," + d + ")", x.shut(s, d), o.shut(s, d)); break;
            case 3: comes(c, s, d); break;
            case 4:
                n = r.nextBoolean() ? -1 : school();
                due("goes(" + c + "," + s + "," + d + "," + n + ")", x.goes(c, s, d, n), o.goes(c, s, d, n));
                break;
            case 5: case 6:
                n = number(0, 7);
                int h = half();
                due("failed(" + n + "," + h + ")", x.failed(n, h), o.failed(n, h));
                break;
            case 7:
                n = number(0, 1);
                int to = r.nextInt(4) == 0 ? day() : d + r.nextInt(5);
                due("has(" + c + "," + n + "," + d + "," + to + ")", x.has(c, n, d, to), o.has(c, n, d, to));
                break;
            case 8: case 9:
                int m = of(o.count(3)), l = letter();
                due("appeal(" + m + "," + l + "," + d + ")", x.appeal(m, l, d), o.appeal(m, l, d));
                break;
            case 10:
                n = r.nextInt(3) == 0 ? number(0, 99999999) : r.nextInt(1000) * 1001;
                due("record(" + n + ")", x.record(n), o.record(n));
                break;
            case 11:
                n = r.nextInt(3) == 0 ? number(0, 99999999) : r.nextInt(1000) * 1001;
                c = of(o.count(0));
                due("missing(" + c + "," + n + ")", x.missing(c, n), o.missing(c, n));
                break;
            case 12:
                n = number(1, 200);
                int w = r.nextBoolean() ? number(1, 1000) : number(1, 3);
                c = of(o.count(0));
                due("visit(" + c + "," + n + "," + w + ")", x.visit(c, n, w), o.visit(c, n, w));
                break;
            case 13:
                n = number(0, 1);
                int did = r.nextBoolean() ? number(-100, 100) : number(-3, 3);
                c = of(o.count(0));
                due("draw(" + c + "," + n + "," + did + ")", x.draw(c, n, did), o.draw(c, n, did));
                break;
            case 14:
                n = number(0, 1);
                if (r.nextBoolean()) {
                    due("image(" + n + ")", x.image(n), o.image(n));
                } else if (r.nextInt(3) == 0) {
                    due("back(" + n + ")", x.back(n), o.back(n));
                }
                break;
            default:
                n = of(o.count(3));
                int mask = number(1, 7);
                due("alter(" + n + "," + mask + ")", x.alter(n, mask), o.alter(n, mask));
                break;
        }
    }

    private void steps(int which) {
        int c = child(), s = r.nextInt(3) == 0 ? number(0, 3) : r.nextInt(2), d = known(), n;
        for (int i = 0; i < 9 && which >= 3 && which <= 5 && o.fine(c, s, 399, 0) == -1; i++) {
            c = child();
            s = r.nextInt(3);
        }
        switch (which) {
            case 0:
                n = r.nextBoolean() ? 0 : day();
                due("due(" + c + "," + s + "," + n + "," + d + ")", x.due(c, s, n, d), o.due(c, s, n, d));
                break;
            case 1: case 2: case 6:
                s = nextStep(c, s);
                due("take(" + c + "," + s + "," + d + ")", x.take(c, s, d), o.take(c, s, d));
                break;
            case 3: due("stands(" + c + "," + s + "," + d + ")", x.stands(c, s, d), o.stands(c, s, d)); break;
            case 4: due("pay(" + c + "," + s + "," + d + ")", x.pay(c, s, d), o.pay(c, s, d)); break;
            default:
                n = number(0, 2);
                due("fine(" + c + "," + s + "," + d + "," + n + ")", x.fine(c, s, d, n), o.fine(c, s, d, n));
                break;
        }
    }

    /** Mostly the first step that was not taken. */
    private int nextStep(int c, int s) {
        for (int i = 0; i < 4 && r.nextInt(8) != 0; i++) {
            if (o.fine(c, i, 399, 0) == -1) {
                return i;
            }
        }
        return s;
    }

    private void ask(int which) {
        int c = child(), s = school(), d = day(), h = half(), k = known(), n, to = r.nextInt(3) == 0 ? half() : 2 * days - 1;
        if (!marked.isEmpty() && which <= 3 && r.nextInt(6) != 0) {
            int[] old = marked.get(r.nextInt(marked.size()));
            s = old[0];
            c = old[1];
            h = old[2];
        }
        if (which == 5 || which == 6 || which == 13 || which == 14) {
            h = r.nextBoolean() ? 0 : h;
        }
        switch (which) {
            case 0: due("isOn(" + c + "," + s + "," + d + ")", x.isOn(c, s, d), o.isOn(c, s, d)); break;
            case 1: case 2:
                for (n = 0; n < 5; n++) {
                    due("tells(" + s + "," + c + "," + h + "," + k + "," + n + ")", x.tells(s, c, h, k, n), o.tells(s, c, h, k, n));
                }
                break;
            case 3:
                n = number(0, 3);
                due("sees(" + n + "," + s + "," + c + "," + h + "," + k + ")", x.sees(n, s, c, h, k), o.sees(n, s, c, h, k));
                break;
            case 4:
                n = of(o.count(4));
                int cl = r.nextInt(6);
                due("force(" + n + "," + cl + "," + d + ")", x.force(n, cl, d), o.force(n, cl, d));
                break;
            case 5:
                n = number(0, 3);
                due("rate(" + c + "," + h + "," + to + "," + k + "," + n + ")", x.rate(c, h, to, k, n), o.rate(c, h, to, k, n));
                break;
            case 6:
                n = number(0, 3);
                due("dip(" + s + "," + h + "," + to + "," + k + "," + n + ")", x.dip(s, h, to, k, n), o.dip(s, h, to, k, n));
                break;
            case 7: due("off(" + c + "," + d + "," + k + ")", x.off(c, d, k), o.off(c, d, k)); break;
            case 8: case 9:
                n = number(0, 2);
                int i = r.nextInt(4) - 1;
                due("rolls(" + d + "," + n + "," + i + ")", x.rolls(d, n, i), o.rolls(d, n, i));
                break;
            case 10: due("seen(" + c + "," + d + "," + k + ")", x.seen(c, d, k), o.seen(c, d, k)); break;
            case 11:
                n = number(0, 8);
                due("join(" + n + ")", x.join(n), o.join(n));
                for (i = -1; i < 6; i++) {
                    due("joined(" + i + ")", x.joined(i), o.joined(i));
                }
                break;
            case 12:
                n = number(0, 8) / 3;
                int row = r.nextInt(r.nextBoolean() ? 60 : 130000);
                due("judge(" + row + "," + n + ")", x.judge(row, n), o.judge(row, n));
                break;
            case 13: case 14:
                i = r.nextInt(5) - 2;
                due("cannot(" + h + "," + to + "," + k + "," + i + ")", x.cannot(h, to, k, i), o.cannot(h, to, k, i));
                break;
            case 15:
                int a = number(0, 99), b = number(0, 99);
                n = number(0, r.nextBoolean() ? 2000 : 400);
                for (i = 0; i < 3; i++) {
                    due("round(" + a + "," + b + "," + n + "," + i + ")", x.round(a, b, n, i), o.round(a, b, n, i));
                }
                break;
            case 16:
                n = r.nextInt(3) == 0 ? number(1, 20) : 1;
                int w = r.nextInt(10) == 0 ? number(0, 57) : r.nextInt((days + 6) / 7);
                i = number(0, 1);
                due("dips(" + w + "," + k + "," + n + "," + i + ")", x.dips(w, k, n, i), o.dips(w, k, n, i));
                break;
            case 17:
                n = number(0, 1);
                due("helped(" + n + ")", x.helped(n), o.helped(n));
                break;
            case 18:
                d = r.nextBoolean() ? d : r.nextInt(5);
                if (r.nextBoolean()) {
                    due("seal(" + d + ")", x.seal(d), o.seal(d));
                }
                for (i = r.nextInt(3); i > 0 && !marked.isEmpty(); i--) {
                    n = r.nextInt(marked.size());
                    int mask = number(1, 7);
                    due("alter(" + n + "," + mask + ")", x.alter(n, mask), o.alter(n, mask));
                    d = marked.get(n)[2] / 2;
                }
                due("found(" + d + ")", x.found(d), o.found(d));
                break;
            default:
                n = number(0, 9);
                due("count(" + n + ")", x.count(n), o.count(n));
                break;
        }
    }
}
