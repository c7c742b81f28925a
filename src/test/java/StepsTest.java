/** Promises 19 to 26: rates, steps that are due, taken and stand, fines, and names that may come off. */
public final class StepsTest {
    private static final String BASE = """
        new
        child(10, true, 2, 0, 0) = 0 | child(7, false, -1, 3, 4) = 1
        school() = 0 | school() = 1
        comes(0, 0, 0) = 1 | comes(1, 0, 0) = 2 | comes(0, 1, 0) = 3
        text code a here;code b late;code c allowed;code d away
        act(0) = 0
        """;

    public static void main(String[] args) {
        Script s = new Script("StepsTest");
        rates(s);
        due(s);
        spans(s);
        taken(s);
        fines(s);
        off(s);
        s.close();
    }

    private static void rates(Script s) {
        s.run(BASE).run("""
            # promises 19, 20
            rate(0, 0, 799, 0, 0) = 0 | rate(0, 0, 799, 0, 1) = 0 | rate(0, 0, 799, 0, 2) = 0 | rate(0, 0, 799, 0, 3) = 1
            mark(0, 0, 0, 3, 0, 0) = 0 | mark(0, 0, 1, 3, 0, 0) = 1 | mark(0, 0, 2, 0, 0, 0) = 2 | mark(0, 0, 3, 1, 0, 0) = 3
            mark(0, 0, 4, 2, 0, 0) = 4 | mark(0, 0, 5, 25, 0, 0) = 5 | mark(1, 0, 0, 3, 0, 0) = 6 | mark(0, 1, 0, 3, 0, 5) = 7
            rate(0, 0, 799, 0, 0) = 6 | rate(0, 0, 799, 0, 1) = 3 | rate(0, 0, 799, 0, 2) = 1 | rate(0, 0, 799, 0, 3) = 2
            rate(0, 0, 0, 0, 0) = 2 | rate(0, 1, 4, 0, 0) = 4 | rate(0, 1, 4, 0, 1) = 1 | rate(0, 1, 4, 0, 3) = 4
            rate(0, 2, 5, 0, 0) = 3 | rate(0, 2, 5, 0, 2) = 0 | rate(0, 2, 5, 0, 3) = 1 | rate(0, 5, 5, 0, 0) = 0 | rate(0, 5, 5, 0, 3) = 1
            rate(1, 0, 0, 4, 0) = 0 | rate(1, 0, 0, 5, 0) = 1 | rate(1, 0, 0, 5, 2) = 1 | rate(1, 0, 0, 5, 3) = 1
            dip(0, 0, 0, 4, 0) = 1 | dip(0, 0, 0, 5, 0) = 2 | dip(1, 0, 0, 5, 1) = 1 | dip(0, 0, 799, 5, 0) = 6
            dip(0, 0, 799, 5, 1) = 3 | dip(0, 0, 799, 5, 2) = 1 | dip(0, 0, 799, 5, 3) = 2 | dip(1, 2, 799, 5, 3) = 1 | dip(1, 2, 799, 5, 2) = 0
            rate(0, 1, 0, 0, 0) = -1 | rate(0, -1, 0, 0, 0) = -1 | rate(0, 0, 800, 0, 0) = -1 | rate(0, 0, 0, 400, 0) = -1
            rate(0, 0, 0, -1, 0) = -1 | rate(2, 0, 0, 0, 0) = -1 | rate(-1, 0, 0, 0, 0) = -1 | rate(0, 0, 0, 0, 4) = -1 | rate(0, 0, 0, 0, -1) = -1
            dip(0, 1, 0, 0, 0) = -1 | dip(0, -1, 0, 0, 0) = -1 | dip(0, 0, 800, 0, 0) = -1 | dip(0, 0, 0, 400, 0) = -1
            dip(0, 0, 0, -1, 0) = -1 | dip(2, 0, 0, 0, 0) = -1 | dip(-1, 0, 0, 0, 0) = -1 | dip(0, 0, 0, 0, 4) = -1 | dip(0, 0, 0, 0, -1) = -1
            # promise 19: marks mended count once
            mark(0, 0, 0, 0, 0, 3) = 8
            rate(0, 0, 0, 2, 1) = 2 | rate(0, 0, 0, 3, 1) = 1 | rate(0, 0, 0, 3, 0) = 2
            appeal(6, 25, 4) = 0
            rate(0, 0, 0, 4, 0) = 1 | rate(0, 0, 0, 4, 1) = 0
            # promise 19: of three in one half that are known from days out of order
            mark(0, 0, 6, 3, 0, 0) = 9 | mark(0, 0, 6, 0, 0, 9) = 10 | mark(0, 0, 6, 3, 0, 5) = 11
            rate(0, 6, 6, 0, 0) = 1 | rate(0, 6, 6, 5, 0) = 1 | rate(0, 6, 6, 5, 1) = 1 | rate(0, 6, 6, 9, 0) = 1 | rate(0, 6, 6, 9, 1) = 1
            # promises 19, 20: in lowest terms
            mark(0, 1, 4, 3, 0, 0) = 12 | mark(0, 1, 6, 0, 0, 0) = 13 | mark(0, 1, 7, 3, 0, 0) = 14
            rate(1, 1, 7, 0, 2) = 2 | rate(1, 1, 7, 0, 3) = 3 | mark(0, 1, 8, 3, 0, 0) = 15 | mark(0, 1, 9, 3, 0, 0) = 16 | mark(0, 1, 14, 1, 0, 0) = 17
            rate(1, 1, 14, 0, 0) = 6 | rate(1, 1, 14, 0, 1) = 4 | rate(1, 1, 14, 0, 2) = 2 | rate(1, 1, 14, 0, 3) = 3
            """);
    }

    private static void due(Script s) {
        s.run(BASE).run("""
            # promise 21
            text step 0 2 in 3;step 1 0 in 9;step 2 1 in 1 if 1/0=0;step 3 0-5 in 9
            act(0) = 1
            mark(0, 0, 0, 3, 0, 0) = 0 | mark(0, 0, 6, 3, 0, 0) = 1 | due(0, 0, 0, 0) = -1
            mark(0, 0, 4, 0, 0, 0) = 2 | due(0, 0, 0, 0) = -1
            mark(0, 0, 3, 3, 0, 2) = 3
            due(0, 0, 0, 1) = -1 | due(0, 0, 0, 2) = 1 | due(0, 0, 1, 2) = 1 | due(0, 0, 2, 2) = 2 | due(0, 0, 3, 2) = 3 | due(0, 0, 4, 2) = -1
            due(0, 1, 0, 2) = -1 | due(0, 2, 0, 2) = -1 | due(0, 3, 0, 2) = -1 | due(1, 0, 0, 2) = -1
            due(0, 4, 0, 0) = -1 | due(0, -1, 0, 0) = -1 | due(2, 0, 0, 0) = -1 | due(-1, 0, 0, 0) = -1
            due(0, 0, -1, 2) = -1 | due(0, 0, 400, 2) = -1 | due(0, 0, 0, -1) = -1 | due(0, 0, 0, 400) = -1
            # promise 21: the day needs a possible session, the later text goes ahead
            text step 0 1 in 400 if day>2
            act(0) = 2
            due(0, 0, 3, 2) = 3 | due(0, 0, 4, 2) = -1
            mark(0, 0, 8, 25, 0, 0) = 4 | due(0, 0, 4, 2) = -1
            mark(0, 0, 14, 0, 0, 0) = 5 | due(0, 0, 4, 2) = 7
            # promise 21: sessions of the half behind noon too, and of two schools
            new
            child(9, false, -1, 0, 0) = 0 | school() = 0 | school() = 1 | comes(0, 0, 0) = 1 | comes(0, 1, 0) = 2
            text code d away;step 0 3 in 1
            act(0) = 0
            mark(0, 0, 796, 3, 0, 0) = -3 | mark(0, 0, 795, 3, 0, 0) = -3 | mark(0, 0, 789, 3, 0, 0) = 0 | mark(1, 0, 789, 3, 0, 0) = 1
            due(0, 0, 0, 0) = -1 | mark(0, 0, 788, 3, 0, 0) = 2 | due(0, 0, 0, 0) = 394 | due(0, 0, 394, 0) = 394 | due(0, 0, 395, 0) = -1
            # promise 21: on the last day of all
            mark(0, 0, 798, 3, 0, 0) = 3 | mark(1, 0, 798, 3, 0, 0) = 4 | due(0, 0, 395, 0) = -1 | mark(0, 0, 799, 3, 0, 0) = 5 | due(0, 0, 395, 0) = 399
            due(0, 0, 399, 0) = 399 | take(0, 0, 398) = 0 | take(0, 1, 399) = -3
            """);
    }

    private static void spans(Script s) {
        s.run(BASE).run("""
            # promises 21, 26: the latest 84 days ahead of the day
            mark(0, 0, 0, 3, 0, 0) = 0 | mark(0, 0, 3, 0, 0, 0) = 1 | mark(1, 0, 3, 2, 0, 0) = 2
            text off if away=1 and possible=3
            act(0) = 1
            off(0, 0, 0) = 0 | off(0, 1, 0) = 0 | off(0, 2, 0) = 1 | off(0, 84, 0) = 1 | off(0, 85, 0) = 0 | off(1, 2, 0) = 0
            text off if possible=2 and away=0
            act(0) = 2
            off(0, 85, 0) = 1 | off(0, 86, 0) = 0
            # promises 21, 24, 26: minutes and school are 0, though the child's last mark has some
            mark(1, 0, 16, 3, 7, 0) = 3
            text off if minutes>0 or school>0;step 0 1 in 1 if minutes=0 and school=0;fine 0 5+minutes+school quick 1
            act(0) = 3
            off(0, 87, 0) = 0 | due(0, 0, 3, 0) = 8 | take(0, 0, 8) = 0 | fine(0, 0, 8, 0) = 5 | pay(0, 0, 9) = 5
            """);
    }

    private static void taken(Script s) {
        s.run(BASE).run("""
            # promise 22
            text step 0 2 in 5;step 1 2 in 2;step 2 1 in 5;step 3 1 in 5
            act(0) = 1
            mark(0, 0, 0, 3, 0, 0) = 0 | mark(0, 0, 2, 3, 0, 0) = 1 | mark(0, 0, 4, 3, 0, 6) = 2 | mark(0, 0, 14, 3, 0, 0) = 3 | mark(0, 0, 16, 3, 0, 0) = 4
            take(0, 4, 0) = -1 | take(0, -1, 0) = -1 | take(0, 0, -1) = -1 | take(0, 0, 400) = -1 | take(9, 9, 0) = -1 | status() = -1
            take(2, 0, 1) = -2 | take(-1, 0, 1) = -2 | status() = -2
            take(0, 0, 0) = -3 | take(0, 1, 9) = -3 | take(1, 0, 9) = -3 | status() = -3
            take(0, 0, 1) = 0 | status() = 0
            take(0, 0, 1) = -4 | take(0, 0, 9) = -4 | status() = -4 | take(0, 0, 0) = -3
            take(0, 1, 1) = -3 | take(0, 1, 0) = -3 | take(0, 1, 5) = -3 | take(0, 2, 9) = -3
            take(0, 1, 6) = 0
            take(0, 2, 6) = -3 | take(0, 2, 7) = 0 | take(0, 3, 7) = -3 | take(0, 3, 399) = 0 | take(0, 3, 399) = -4
            # promise 23
            stands(0, 0, 0) = 0 | stands(0, 0, 1) = 1 | stands(0, 0, 399) = 1 | stands(0, 1, 5) = 0 | stands(0, 1, 6) = 1
            stands(0, 2, 6) = 0 | stands(0, 2, 7) = 1 | stands(0, 3, 398) = 0 | stands(0, 3, 399) = 1 | stands(1, 0, 399) = 0
            stands(0, 4, 0) = -1 | stands(0, -1, 0) = -1 | stands(2, 0, 0) = -1 | stands(-1, 0, 0) = -1 | stands(0, 0, 400) = -1 | stands(0, 0, -1) = -1
            # promise 23: an appeal undoes what hung on the mark, from the day on which it is known
            appeal(2, 0, 20) = 0
            stands(0, 0, 20) = 1 | stands(0, 1, 19) = 1 | stands(0, 1, 20) = 0 | stands(0, 2, 20) = 0 | stands(0, 2, 19) = 1
            appeal(0, 0, 15) = 0
            stands(0, 0, 14) = 1 | stands(0, 0, 15) = 0 | stands(0, 1, 15) = 0 | stands(0, 3, 399) = 0
            """);
    }

    private static void fines(Script s) {
        s.run(BASE).run("""
            # promises 24, 25
            text step 0 1 in 5;step 1 1 in 5;step 2 1 in 9;fine 0 61 quick 3;fine 1 away-3 quick 9;fine 2 [away+day]*10 quick 1
            act(0) = 1
            mark(0, 0, 4, 3, 0, 0) = 0 | mark(0, 0, 6, 3, 0, 0) = 1 | mark(0, 0, 8, 3, 0, 0) = 2 | mark(0, 1, 8, 3, 0, 0) = 3
            take(0, 0, 2) = 0 | take(0, 1, 3) = 0 | take(0, 2, 4) = 0 | take(1, 0, 5) = 0
            fine(0, 0, 1, 0) = -1 | fine(0, 0, 2, 0) = 61 | fine(0, 0, 2, 1) = 61 | fine(0, 0, 2, 2) = 0
            fine(0, 1, 399, 0) = 0 | fine(0, 2, 399, 0) = 60 | fine(0, 3, 399, 0) = -1 | fine(1, 0, 5, 0) = 61
            fine(2, 0, 0, 0) = -1 | fine(-1, 0, 0, 0) = -1 | fine(0, 4, 0, 0) = -1 | fine(0, -1, 0, 0) = -1
            fine(0, 0, 400, 0) = -1 | fine(0, 0, -1, 0) = -1 | fine(0, 0, 9, 3) = -1 | fine(0, 0, 9, -1) = -1
            pay(0, 4, 0) = -1 | pay(0, -1, 0) = -1 | pay(0, 0, 400) = -1 | pay(0, 0, -1) = -1 | pay(9, 9, 0) = -1 | status() = -1
            pay(2, 0, 0) = -2 | pay(-1, 0, 0) = -2 | status() = -2
            pay(0, 0, 1) = -3 | pay(0, 3, 399) = -3 | status() = -3
            pay(0, 0, 4) = 30 | status() = 0
            pay(0, 0, 5) = -4 | status() = -4 | pay(0, 0, 1) = -3
            pay(1, 0, 8) = 61 | pay(0, 1, 9) = 0 | pay(0, 1, 9) = -4 | pay(0, 2, 5) = 60
            fine(0, 0, 3, 1) = 61 | fine(0, 0, 4, 1) = 0 | fine(1, 0, 7, 1) = 61 | fine(1, 0, 8, 1) = 0 | fine(1, 0, 8, 0) = 61
            # promise 25: refund
            appeal(3, 0, 6) = 0 | appeal(0, 0, 20) = 0
            fine(1, 0, 5, 1) = 61 | fine(1, 0, 6, 1) = 0 | fine(1, 0, 7, 2) = 0 | fine(1, 0, 8, 2) = 61 | fine(1, 0, 8, 0) = 61
            fine(0, 0, 19, 2) = 0 | fine(0, 0, 20, 2) = 30 | fine(0, 0, 20, 1) = 0 | fine(0, 2, 20, 2) = 60 | fine(0, 1, 20, 2) = 0
            # promise 25: the fine of the day on which it was taken, by what was known then
            fine(0, 2, 399, 0) = 60
            text fine 0 7 quick 3;fine 2 9 quick 9 if day=4
            act(5) = 2
            fine(0, 0, 399, 0) = 61 | fine(1, 0, 399, 0) = 7 | fine(0, 2, 399, 0) = 60
            # promise 25: what was paid stays as it was
            fine(1, 0, 399, 2) = 61
            # promises 24, 25: without a fine, and quick to the day
            new
            child(9, false, -1, 0, 0) = 0 | child(9, false, -1, 0, 0) = 1 | school() = 0 | comes(0, 0, 0) = 1 | comes(1, 0, 0) = 2
            text code d away;step 0 1 in 1;step 1 1 in 1;fine 1 7 quick 2
            act(0) = 0
            mark(0, 0, 0, 3, 0, 0) = 0 | mark(0, 0, 2, 3, 0, 0) = 1 | mark(0, 1, 0, 3, 0, 0) = 2 | mark(0, 1, 2, 3, 0, 0) = 3
            take(0, 0, 0) = 0 | take(0, 1, 1) = 0 | take(1, 0, 0) = 0 | take(1, 1, 1) = 0
            fine(0, 0, 9, 0) = 0 | pay(0, 0, 0) = 0 | status() = 0 | pay(0, 0, 0) = -4
            pay(0, 1, 2) = 3 | pay(1, 1, 3) = 7
            """);
    }

    private static void off(Script s) {
        s.run(BASE).run("""
            # promise 26
            off(0, 0, 0) = 0
            text off if away>1
            act(3) = 1
            mark(0, 0, 0, 3, 0, 0) = 0 | mark(0, 0, 1, 3, 0, 7) = 1
            off(0, 2, 7) = 0 | off(0, 3, 6) = 0 | off(0, 3, 7) = 1 | off(0, 84, 7) = 1 | off(0, 85, 7) = 0 | off(1, 3, 7) = 0
            """);
    }
}
