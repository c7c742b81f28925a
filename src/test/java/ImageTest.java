import java.util.ArrayList;
import java.util.List;

/**
 * Promises 44, 45: two counties that differ in everything are told one behind the other, each is kept as an image,
 * and behind back() all questions are answered as they were when it was kept.
 */
public final class ImageTest {
    private static final int GROUPS = 6;

    public static void main(String[] args) {
        Check check = new Check("ImageTest");
        for (int group = 0; group < GROUPS; group++) {
            oneGroup(check, group);
        }
        check.close();
    }

    /** An object has 512 calls, so each group of questions gets an object of its own. */
    private static void oneGroup(Check check, int group) {
        HalfDays x = new HalfDays();
        check.due("image(1)", x.image(1), 0);
        tellFirst(x);
        List<Integer> first = ask(x, group);
        check.due("image(0)", x.image(0), 0);
        check.due("back(1)", x.back(1), 0);
        for (int what = 0; what < 9; what++) {
            check.due("count(" + what + ") of the empty image", x.count(what), 0);
        }
        tellSecond(x, check);
        List<Integer> second = ask(x, group);
        check.due("image(1)", x.image(1), 0);
        check.due("the two differ in group " + group, first.equals(second) ? 1 : 0, 0);
        check.due("back(0)", x.back(0), 0);
        same(check, "first, group " + group, ask(x, group), first);
        check.due("back(1)", x.back(1), 0);
        same(check, "second, group " + group, ask(x, group), second);
        refuseTwice(check, x);
    }

    /** On the second county, then on the first one. */
    private static void refuseTwice(Check check, HalfDays x) {
        check.due("missing(2, 0)", x.missing(2, 0), -4);
        check.due("draw(3, 0, 0)", x.draw(3, 0, 0), -4);
        check.due("missing(0, 0)", x.missing(0, 0), 3);
        check.due("draw(0, 0, 0)", x.draw(0, 0, 0), 4);
        check.due("join(0)", x.join(0), 15);
        check.due("back(0)", x.back(0), 0);
        check.due("missing(0, 0)", x.missing(0, 0), -4);
        check.due("draw(0, 0, 0)", x.draw(0, 0, 0), -4);
        check.due("join(0)", x.join(0), 6);
        check.due("missing(2, 0)", x.missing(2, 0), 2);
        check.due("draw(2, 0, 0)", x.draw(2, 0, 0), 3);
    }

    private static void same(Check check, String what, List<Integer> got, List<Integer> want) {
        for (int i = 0; i < want.size(); i++) {
            check.due(what + ", question " + i, got.get(i), want.get(i));
        }
    }

    private static void tellFirst(HalfDays x) {
        x.child(9, true, 1, 5, 6);
        x.child(8, false, 2, 7, 8);
        x.child(17, false, -1, 0, 0);
        x.school();
        x.school();
        x.shut(0, 8);
        x.comes(0, 0, 0);
        x.comes(1, 0, 0);
        x.comes(1, 1, 2);
        x.goes(1, 1, 9, -1);
        x.failed(1, 4);
        x.failed(2, 5);
        x.has(0, 0, 3, 4);
        x.has(1, 1, 3, 4);
        Texts.act(x, "code a here;code d away;step 0 1 in 3;fine 0 60 quick 9;shut b 1;off if carer or bus or part or home", 0);
        Texts.act(x, "strike 0 clause 4", 3);
        x.mark(0, 0, 0, 3, 9, 0);
        x.mark(0, 1, 0, 0, 0, 0);
        x.mark(0, 0, 4, 0, 0, 2);
        x.mark(0, 0, 0, 1, 0, 5);
        x.mark(0, 0, 6, 3, 0, 0);
        x.appeal(0, 0, 4);
        x.take(0, 0, 1);
        x.pay(0, 0, 2);
        x.take(0, 1, 3);
        x.record(12345678);
        x.missing(0, 12345600);
        x.visit(0, 10, 5);
        x.visit(1, 20, 5);
        x.draw(0, 1, 7);
        x.draw(1, 0, 5);
        x.seal(0);
        x.alter(1, 2);
    }

    private static void tellSecond(HalfDays x, Check check) {
        x.child(4, false, 3, 50, 60);
        x.child(17, true, -1, 70, 80);
        x.child(5, false, 1, 1, 1);
        x.child(6, false, 1, 1, 1);
        x.school();
        x.school();
        x.school();
        x.shut(1, 8);
        x.shut(0, 9);
        x.comes(2, 2, 0);
        x.goes(2, 2, 7, 0);
        x.comes(1, 1, 0);
        x.comes(3, 2, 0);
        x.goes(3, 2, 8, 1);
        x.comes(0, 1, 0);
        x.comes(1, 0, 0);
        x.failed(3, 6);
        x.failed(1, 7);
        x.has(2, 0, 5, 6);
        x.has(0, 1, 1, 2);
        Texts.act(x, "code a late;code b away;code d away;step 0 1 in 1;fine 0 50 quick 1;off if home;shut a 2", 1);
        Texts.act(x, "strike 0 clause 2", 4);
        Texts.act(x, "off if carer", 6);
        x.mark(1, 1, 2, 1, 0, 1);
        x.mark(1, 0, 2, 3, 4, 0);
        x.mark(0, 1, 2, 0, 0, 0);
        x.mark(1, 0, 0, 0, 0, 0);
        x.mark(1, 1, 2, 0, 0, 3);
        x.appeal(1, 0, 6);
        check.due("take(0, 0, 2)", x.take(0, 0, 2), 0);
        check.due("pay(0, 0, 4)", x.pay(0, 0, 4), 50);
        x.record(87654321);
        x.record(11111111);
        check.due("missing(2, 87654321)", x.missing(2, 87654321), 1);
        check.due("missing(1, 11111119)", x.missing(1, 11111119), 2);
        x.visit(2, 30, 9);
        x.visit(0, 3, 1);
        x.visit(2, 3, 2);
        check.due("draw(3, 0, -5)", x.draw(3, 0, -5), 1);
        check.due("draw(2, 1, 9)", x.draw(2, 1, 9), 2);
        check.due("draw(1, 0, -3)", x.draw(1, 0, -3), 3);
        check.due("seal(1)", x.seal(1), 4);
        check.due("seal(0)", x.seal(0), 1);
        x.alter(0, 7);
        x.alter(3, 1);
    }

    private static List<Integer> ask(HalfDays x, int group) {
        List<Integer> a = new ArrayList<>();
        switch (group) {
            case 0: askCounts(x, a); break;
            case 1: askRolls(x, a); break;
            case 2: askMarks(x, a); break;
            case 3: askSteps(x, a); break;
            case 4: askLists(x, a); break;
            default: askActs(x, a); break;
        }
        return a;
    }

    private static void askCounts(HalfDays x, List<Integer> a) {
        for (int what = 0; what < 9; what++) {
            a.add(x.count(what));
        }
        for (int day = 0; day < 4; day++) {
            a.add(x.found(day));
            for (int child = 0; child < 4; child++) {
                a.add(x.off(child, day + 2, 9));
            }
        }
        for (int known = 0; known < 6; known++) {
            a.add(x.cannot(0, 99, known, -1));
            a.add(x.cannot(0, 99, known, 0));
        }
    }

    private static void askRolls(HalfDays x, List<Integer> a) {
        for (int child = 0; child < 4; child++) {
            for (int school = 0; school < 3; school++) {
                for (int day = 0; day < 10; day += 3) {
                    a.add(x.isOn(child, school, day));
                }
            }
        }
        for (int day = 1; day < 10; day += 2) {
            for (int what = 0; what < 3; what++) {
                a.add(x.rolls(day, what, -1));
                a.add(x.rolls(day, what, 0));
            }
        }
    }

    private static void askMarks(HalfDays x, List<Integer> a) {
        for (int school = 0; school < 2; school++) {
            for (int child = 0; child < 2; child++) {
                for (int half = 0; half < 6; half += 2) {
                    for (int known = 1; known < 7; known += 5) {
                        a.add(x.tells(school, child, half, known, 0));
                        a.add(x.tells(school, child, half, known, 1));
                        a.add(x.tells(school, child, half, known, 3));
                        a.add(x.sees(1 + school, school, child, half, known));
                    }
                }
            }
        }
    }

    private static void askSteps(HalfDays x, List<Integer> a) {
        for (int child = 0; child < 3; child++) {
            for (int known = 0; known < 6; known++) {
                a.add(x.rate(child, 0, 99, known, 0));
                a.add(x.rate(child, 0, 99, known, 1));
                a.add(x.seen(child, 9, known));
            }
        }
        for (int known = 1; known < 7; known++) {
            a.add(x.due(0, 0, 0, known));
            a.add(x.stands(0, 0, known));
            a.add(x.fine(0, 0, known, 0));
            a.add(x.fine(0, 0, known, 1));
            a.add(x.fine(0, 0, known, 2));
        }
    }

    private static void askLists(HalfDays x, List<Integer> a) {
        for (int least = 0; least < 9; least += 4) {
            a.add(x.join(least));
            a.add(x.judge(1, least));
            a.add(x.judge(2, least));
        }
        a.add(x.helped(0));
        a.add(x.helped(1));
        for (int n = 20; n < 200; n += 8) {
            a.add(x.round(9, 9, n, 0));
            a.add(x.round(9, 9, n, 1));
            a.add(x.round(9, 9, n, 2));
        }
        for (int known = 0; known < 4; known++) {
            a.add(x.dips(0, known, 1, 0));
            a.add(x.dips(0, known, 1, 1));
        }
    }

    private static void askActs(HalfDays x, List<Integer> a) {
        for (int text = 0; text < 3; text++) {
            for (int clause = 0; clause < 7; clause++) {
                for (int day = 0; day < 8; day += 2) {
                    a.add(x.force(text, clause, day));
                }
            }
        }
    }
}
