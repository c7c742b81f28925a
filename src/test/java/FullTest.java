/** The limits of the terms: none, the last one that there is room for (which works like the first), the first that there is none for. */
public final class FullTest {
    public static void main(String[] args) {
        Script s = new Script("FullTest");
        children(s);
        rolls(s);
        busesAndSpans(s);
        marksOfAllHalves(s);
        marksOfOneDay(s);
        acts(s);
        tape(s);
        joins(s);
        visits(s);
        draws(s);
        roomAgain(s);
        s.close();
    }

    private static void tellChildren(Script s, int many) {
        s.run("new");
        for (int i = 0; i < many; i++) {
            s.due("child(9, " + (i % 2 == 0) + ", " + i % 8 + ", " + i + ", " + (99 - i) + ")", i);
        }
    }

    private static void children(Script s) {
        s.run("# promises 2, 3: 40 CHILDREN, 5 SCHOOLS");
        tellChildren(s, 40);
        s.run("""
            child(9, false, 0, 0, 0) = -5 | child(9, false, -1, 99, 99) = -5 | count(0) = 40
            shut(4, 7) = -2 | school() = 0 | school() = 1 | school() = 2 | school() = 3 | shut(4, 7) = -2 | comes(39, 4, 399) = -2
            school() = 4 | school() = -5 | school() = -5 | count(1) = 5 | shut(5, 7) = -2
            # promises 4, 10: the last SCHOOL is SHUT by itself
            shut(4, 7) = 0 | shut(4, 7) = -4 | shut(3, 8) = 0 | shut(3, 8) = -4 | shut(4, 8) = 0 | shut(4, 8) = -4 | shut(0, 7) = 0 | shut(0, 7) = -4
            comes(38, 4, 0) = 1 | comes(38, 3, 0) = 2 | comes(38, 2, 0) = 3
            mark(4, 38, 14, 0, 0, 0) = -3 | mark(3, 38, 14, 0, 0, 0) = 0 | mark(3, 38, 16, 0, 0, 0) = -3 | mark(2, 38, 16, 0, 0, 0) = 1
            # promises 5 to 7, 27: the last CHILD and the last SCHOOL
            rolls(0, 0, -1) = 39 | rolls(0, 0, 37) = 37 | rolls(0, 0, 38) = 39 | rolls(0, 0, 39) = -1
            comes(39, 4, 399) = 4 | isOn(39, 4, 399) = 1 | isOn(39, 4, 398) = 0 | rolls(399, 0, -1) = 38 | rolls(399, 0, 37) = 37 | rolls(399, 0, 38) = -1
            comes(39, 0, 0) = 5 | comes(39, 1, 0) = 6 | rolls(0, 1, -1) = 2 | rolls(0, 1, 0) = 38 | rolls(0, 1, 1) = 39
            goes(39, 0, 5, 4) = 0 | rolls(4, 2, -1) = 0 | rolls(5, 2, -1) = 1 | rolls(5, 2, 0) = 39 | rolls(398, 2, -1) = 1 | rolls(399, 2, -1) = 0
            goes(39, 1, 5, 5) = -1 | comes(40, 0, 0) = -2 | isOn(40, 0, 0) = -1 | isOn(39, 5, 0) = -1
            # promises 9, 12, 13, 21 to 26: the last CHILD
            has(39, 0, 3, 4) = 1 | has(39, 1, 4, 5) = 1 | failed(7, 8) = 1
            text code a away;code b here;step 0 1 in 1;step 1 1 in 1;step 2 1 in 1;step 3 1 in 1
            act(0) = 0
            text fine 3 [born+day]*10 quick 1;off if part;off if home;off if bus;code c away if bus;shut a 3 if not carer
            act(0) = 1
            comes(39, 3, 0) = 7 | comes(39, 2, 0) = 8
            mark(1, 39, 0, 0, 0, 0) = 2 | mark(1, 39, 2, 0, 0, 0) = 3 | mark(1, 39, 4, 0, 0, 0) = 4 | mark(2, 39, 6, 0, 0, 0) = 5 | mark(3, 39, 8, 2, 0, 0) = 6
            tells(3, 39, 8, 0, 3) = 3 | tells(3, 39, 8, 0, 4) = 16 | sees(3, 1, 39, 0, 0) = -3 | sees(2, 1, 39, 0, 0) = 0
            due(39, 3, 0, 0) = 0 | take(39, 0, 0) = 0 | take(39, 1, 1) = 0 | take(39, 2, 2) = 0 | take(39, 3, 3) = 0 | take(39, 3, 3) = -4 | take(40, 0, 0) = -2
            fine(39, 3, 3, 0) = 120 | fine(39, 3, 3, 1) = 120 | pay(39, 3, 3) = 60 | fine(39, 3, 3, 1) = 0 | pay(39, 3, 3) = -4 | pay(40, 3, 3) = -2
            stands(39, 3, 3) = 1 | appeal(2, 1, 9) = 0 | stands(39, 3, 9) = 0 | fine(39, 3, 9, 2) = 60 | stands(40, 0, 0) = -1
            off(39, 2, 0) = 0 | off(39, 3, 0) = 1 | off(39, 4, 0) = 1 | off(39, 5, 0) = 1 | off(39, 6, 0) = 0 | off(31, 4, 0) = 1 | off(38, 4, 0) = 0
            rate(39, 0, 799, 8, 0) = 5 | rate(39, 0, 799, 8, 1) = 5 | dip(4, 0, 799, 399, 0) = 0 | seen(39, 399, 9) = 0 | seen(39, 399, 8) = -1
            # promises 30, 35, 38, 44, 45: the last CHILD
            missing(39, 5) = 1 | missing(39, 5) = -4 | missing(40, 5) = -2 | visit(39, 1, 1) = 1 | visit(40, 1, 1) = -2 | draw(39, 1, 1) = 1 | draw(39, 1, 1) = -4 | draw(40, 1, 1) = -2
            round(39, 60, 1, 0) = 1 | round(39, 60, 0, 0) = 0 | round(0, 0, 199, 0) = 1 | round(0, 0, 198, 0) = 0
            image(1) = 0 | back(1) = 0 | stands(39, 3, 3) = 1 | fine(39, 3, 9, 2) = 60 | count(0) = 40 | count(1) = 5 | child(9, false, 0, 0, 0) = -5 | school() = -5
            """);
    }

    private static void rolls(Script s) {
        s.run("# promise 5: 120 ROLLS, three of each CHILD");
        tellChildren(s, 40);
        s.run("school() = 0 | school() = 1 | school() = 2 | school() = 3 | school() = 4 | rolls(0, 1, -1) = 0");
        for (int i = 0; i < 119; i++) {
            s.due("comes(" + i / 3 + ", " + i % 3 + ", 0)", i + 1);
        }
        s.run("""
            rolls(0, 1, -1) = 40 | isOn(39, 2, 0) = 0 | comes(39, 2, 0) = 120 | isOn(39, 2, 0) = 1 | count(2) = 120
            comes(39, 3, 0) = -5 | comes(0, 3, 399) = -5 | count(2) = 120 | isOn(39, 3, 0) = 0
            rolls(0, 0, -1) = 0 | rolls(0, 1, -1) = 40 | rolls(0, 1, 39) = 39 | rolls(0, 1, 40) = -1
            # promise 6: the last ROLL goes off; its room is not free by that
            goes(39, 2, 9, 4) = 0 | isOn(39, 2, 8) = 1 | isOn(39, 2, 9) = 0 | rolls(9, 2, -1) = 1 | rolls(9, 2, 0) = 39 | comes(39, 4, 9) = -5 | comes(39, 2, 10) = -5
            goes(39, 2, 9, 4) = -3 | mark(2, 39, 16, 0, 0, 0) = 0 | mark(2, 39, 18, 0, 0, 0) = -3
            image(0) = 0 | back(0) = 0 | comes(39, 4, 9) = -5 | rolls(9, 2, 0) = 39 | isOn(39, 2, 8) = 1 | isOn(39, 2, 9) = 0
            """);
    }

    private static void busesAndSpans(Script s) {
        s.run("""
            # promise 8: 60 that failed
            new
            child(9, false, 7, 0, 0) = 0 | child(9, false, 6, 0, 0) = 1 | school() = 0 | comes(0, 0, 0) = 1 | comes(1, 0, 0) = 2
            text code a here;code b away if bus;off if part;off if home
            act(0) = 0
            mark(0, 0, 799, 1, 0, 0) = 0 | mark(0, 0, 798, 0, 0, 0) = 1 | mark(0, 1, 799, 1, 0, 0) = 2
            """);
        for (int i = 0; i < 59; i++) {
            s.due("failed(" + i % 6 + ", " + i / 6 + ")", i + 1);
        }
        s.run("""
            tells(0, 0, 799, 0, 3) = 4 | failed(7, 799) = 60 | tells(0, 0, 799, 0, 3) = 3 | tells(0, 1, 799, 0, 3) = 4 | cannot(0, 799, 0, -1) = 0
            failed(7, 798) = -5 | failed(6, 799) = -5 | failed(7, 799) = -4 | cannot(0, 799, 0, -1) = 0 | tells(0, 1, 799, 0, 3) = 4
            image(0) = 0 | back(0) = 0 | failed(6, 799) = -5 | tells(0, 0, 799, 0, 3) = 3
            # promise 9: 60 part days, and 60 at home besides
            """);
        for (int i = 0; i < 59; i++) {
            s.due("has(0, 0, 0, 0)", i + 1);
        }
        s.run("""
            off(1, 9, 0) = 0 | has(1, 0, 9, 9) = 60 | off(1, 9, 0) = 1 | off(1, 8, 0) = 0 | off(1, 10, 0) = 0 | has(1, 0, 10, 10) = -5 | off(1, 10, 0) = 0
            has(1, 1, 20, 20) = 1 | off(1, 20, 0) = 1
            """);
        for (int i = 1; i < 59; i++) {
            s.due("has(0, 1, 0, 0)", i + 1);
        }
        s.run("""
            off(1, 399, 0) = 0 | rolls(399, 0, -1) = 0 | has(1, 1, 399, 399) = 60 | off(1, 399, 0) = 1 | has(1, 1, 398, 398) = -5 | has(1, 0, 398, 398) = -5 | off(1, 398, 0) = 0
            image(0) = 0 | back(0) = 0 | off(1, 9, 0) = 1 | off(1, 399, 0) = 1 | has(1, 1, 398, 398) = -5 | has(1, 0, 398, 398) = -5
            """);
    }

    /** The i-th half of a school day, from the last one back. */
    private static int schoolHalf(int i) {
        int half = 799;
        for (int left = i; left >= 0; half--) {
            if (half / 2 % 7 < 5) {
                left--;
            }
        }
        return half + 1;
    }

    private static void marksOfAllHalves(Script s) {
        s.run("""
            # promises 10, 19: 400 MARKS, in 400 HALVES
            new
            child(9, false, 0, 0, 0) = 0 | school() = 0 | school() = 1 | comes(0, 0, 0) = 1 | comes(0, 1, 0) = 2
            text code a here;code b away;code c late;step 0 134 in 400;off if away=56
            act(0) = 0
            """);
        for (int i = 0; i < 399; i++) {
            s.due("mark(0, 0, " + schoolHalf(i) + ", " + (i % 3 == 0 ? 1 : 0) + ", 300, 0)", i);
        }
        s.run("""
            count(3) = 399 | rate(0, 0, 799, 0, 0) = 399 | rate(0, 0, 799, 0, 1) = 133 | rate(0, 0, 799, 0, 2) = 1 | rate(0, 0, 799, 0, 3) = 3
            due(0, 0, 0, 0) = -1 | tells(0, 0, 0, 0, 0) = -1 | appeal(399, 0, 0) = -2 | alter(399, 1) = -2
            mark(0, 0, 0, 1, 300, 0) = 399
            mark(0, 0, 1, 1, 0, 0) = -5 | mark(1, 0, 799, 0, 0, 0) = -5 | mark(0, 0, 0, 0, 0, 399) = -5 | count(3) = 400 | tells(1, 0, 799, 399, 0) = -1
            tells(0, 0, 0, 0, 0) = 399 | tells(0, 0, 0, 0, 1) = 1 | tells(0, 0, 0, 0, 2) = 300 | tells(0, 0, 0, 0, 3) = 3 | tells(0, 0, 799, 0, 0) = 0
            rate(0, 0, 799, 0, 0) = 400 | rate(0, 0, 799, 0, 1) = 134 | rate(0, 0, 799, 0, 2) = 67 | rate(0, 0, 799, 0, 3) = 200 | dip(0, 0, 799, 0, 2) = 67
            cannot(0, 799, 0, -1) = 0 | cannot(0, 799, 399, 0) = -1 | dips(57, 0, 1, 1) = 1 | dips(0, 0, 20, 1) = 1
            due(0, 0, 0, 0) = 399 | take(0, 0, 399) = 0 | stands(0, 0, 399) = 1 | seal(0) = 1 | found(0) = -1 | alter(399, 7) = 7806 | found(0) = 399 | tells(0, 0, 0, 0, 1) = 6
            alter(399, 7) = 7801 | found(0) = -1 | seen(0, 0, 0) = -1 | appeal(399, 0, 0) = 0 | seen(0, 0, 0) = 0 | appeal(399, 0, 0) = -4 | stands(0, 0, 399) = 0
            image(0) = 0 | back(0) = 0 | count(3) = 400 | mark(0, 0, 1, 1, 0, 0) = -5 | tells(0, 0, 0, 0, 1) = 0 | rate(0, 0, 799, 0, 1) = 133
            """);
    }

    /** All with the greatest number, so that the sums are the greatest too. */
    private static void marksOfOneDay(Script s) {
        s.run("""
            # promises 41 to 43: 400 MARKS of one DAY
            new
            child(9, false, 0, 0, 0) = 0 | school() = 0 | comes(0, 0, 0) = 1 | seal(399) = 0 | found(399) = -1
            """);
        for (int i = 0; i < 400; i++) {
            s.due("mark(0, 0, " + (798 + i % 2) + ", 25, 300, 399)", i);
        }
        s.run("""
            found(399) = -2 | seal(399) = 400 | found(399) = -1 | tells(0, 0, 798, 399, 0) = 398 | tells(0, 0, 799, 399, 0) = 399
            alter(399, 7) = 7830 | found(399) = 399 | alter(399, 7) = 7825 | found(399) = -1 | alter(0, 7) = 7830 | found(399) = 0 | alter(399, 1) = 7824 | found(399) = -2
            alter(0, 7) = 7825 | found(399) = 399 | alter(399, 1) = 7825 | alter(398, 1) = 7824 | found(399) = 398 | alter(399, 2) = 7827 | found(399) = -2 | alter(398, 1) = 7825 | alter(399, 3) = 7824
            found(399) = 399 | alter(400, 1) = -2 | seal(399) = 400 | found(399) = -1 | mark(0, 0, 799, 0, 0, 0) = -5 | found(399) = -1
            beside(0, 399) = -1 | rate(0, 0, 799, 399, 0) = 0
            text code z away;code y here
            beside(0, 399) = 2 | image(1) = 0 | alter(200, 4) = 7829 | found(399) = 200 | back(1) = 0 | found(399) = -1 | cannot(0, 799, 399, -1) = 0
            """);
    }

    private static void acts(Script s) {
        s.run("""
            # promise 16: 20 ACTS of 12 CLAUSES
            new
            child(9, false, 0, 0, 0) = 0 | school() = 0 | comes(0, 0, 0) = 1 | mark(0, 0, 0, 0, 0, 0) = 0 | mark(0, 0, 2, 1, 0, 0) = 1
            """);
        for (int i = 0; i < 19; i++) {
            s.put("off;".repeat(11) + "code a away").due("act(0)", i);
        }
        s.run("""
            force(18, 11, 0) = 1 | force(19, 0, 0) = -1 | tells(0, 0, 0, 0, 4) = 227 | tells(0, 0, 0, 0, 3) = 3
            text code a late
            beside(0, 0) = 1 | count(4) = 19
            text strike 18 clause 11;strike 0 clause 11;strike 19 clause 0;code b late;code b here;off;off;off;off;off;off;code a here
            act(0) = 19 | count(4) = 20
            force(19, 0, 0) = 1 | force(19, 11, 0) = 1 | force(19, 12, 0) = -1 | force(18, 11, 0) = 0 | force(0, 11, 0) = 0 | force(17, 11, 0) = 1 | force(20, 0, 0) = -1
            tells(0, 0, 0, 0, 4) = 239 | tells(0, 0, 0, 0, 3) = 0 | tells(0, 0, 2, 0, 4) = 232 | tells(0, 0, 2, 0, 3) = 0
            text code a away
            act(0) = -5 | act(399) = -5 | count(4) = 20 | count(9) = 11 | beside(0, 0) = -1 | count(9) = 11 | fault() = -1 | tells(0, 0, 0, 0, 4) = 239 | force(20, 0, 0) = -1
            image(0) = 0 | back(0) = 0 | act(0) = -5 | tells(0, 0, 0, 0, 4) = 239
            """);
    }

    private static void tape(Script s) {
        s.run("# promises 14, 15: 400 bytes\nnew\ncount(9) = 0");
        for (int n = 20; n <= 380; n += 20) {
            s.due("feed(538976288, 538976288, 538976288, 538976288, 538976288)", n);
        }
        s.run("""
            end(379) = 379 | feed(538976288, 538976288, 538976288, 538976288, 538976288) = 399 | feed(0, 0, 0, 0, 0) = -1 | count(9) = 399
            end(380) = 380 | feed(538976288, 538976288, 538976288, 538976288, 544171622) = 400 | count(9) = 400
            feed(538976288, 538976288, 538976288, 538976288, 538976288) = -1 | end(401) = -1 | count(9) = 400 | end(400) = 400
            act(0) = 0 | count(9) = 0 | end(1) = -1 | end(0) = 0 | fault() = -1
            # promise 14: it takes twenty bytes or none, up to the 381st
            feed(538976288, 538976288, 538976288, 538976288, 538976288) = 20 | end(1) = 1
            """);
        for (int n = 21; n <= 381; n += 20) {
            s.due("feed(538976288, 538976288, 538976288, 538976288, 538976288)", n);
        }
        s.run("feed(0, 0, 0, 0, 0) = -1 | count(9) = 381 | act(0) = -6 | fault() = 381 | count(9) = 0 | feed(0, 0, 0, 0, 0) = 20");
    }

    private static void joins(Script s) {
        s.run("# promises 29 to 33: 6 RECORDS, 6 MISSING");
        tellChildren(s, 7);
        s.run("""
            record(11111111) = 1 | record(22222222) = 2 | record(33333333) = 3 | record(44444444) = 4 | record(55555555) = 5 | judge(6, 0) = -1
            missing(0, 66666666) = 1 | missing(1, 55555555) = 2 | missing(2, 44444444) = 3 | missing(3, 33333333) = 4 | missing(4, 22222222) = 5
            judge(5, 0) = 0 | judge(6, 0) = -1 | judge(16807, 0) = -1
            record(66666666) = 6 | record(77777777) = -5 | count(5) = 6 | missing(5, 11111111) = 6 | missing(6, 77777777) = -5 | count(6) = 6
            join(8) = 48 | joined(-1) = 1 | joined(0) = 5 | joined(1) = 4 | joined(2) = 3 | joined(3) = 2 | joined(4) = 1 | joined(5) = 0 | joined(6) = -1
            join(0) = 48 | joined(-1) = 1 | joined(0) = 5 | joined(5) = 0
            # promise 33: sevens, the first MISSING lowest; 22875 is 6 5 4 3 2 1
            judge(22875, 8) = 48 | judge(22875, 0) = 48 | judge(114381, 0) = 0 | judge(114381, 1) = -1 | judge(6, 8) = 8 | judge(35, 8) = 8 | judge(196, 8) = 8
            judge(1029, 8) = 8 | judge(4802, 8) = 8 | judge(16807, 8) = 8 | judge(100842, 0) = 0 | judge(117648, 0) = -1 | judge(117649, 0) = -1 | judge(0, 0) = 0
            judge(8, 0) = -1 | judge(16, 0) = -1 | judge(24, 0) = -1 | judge(32, 0) = -1 | judge(40, 0) = -1 | judge(48, 0) = -1 | judge(50, 0) = -1 | judge(84035, 0) = 0 | judge(84042, 0) = 0
            judge(16808, 0) = -1 | judge(16809, 0) = 8 | judge(2147483647, 0) = -1 | judge(139682, 0) = -1
            # promises 31, 32: all alike, in as many ways as there are
            """);
        tellChildren(s, 6);
        for (int i = 0; i < 6; i++) {
            s.due("record(0)", i + 1);
            s.due("missing(" + i + ", 99999999)", i + 1);
        }
        s.run("""
            join(0) = 0 | joined(-1) = 720 | joined(0) = 0 | joined(1) = 1 | joined(2) = 2 | joined(3) = 3 | joined(4) = 4 | joined(5) = 5
            join(1) = 0 | joined(-1) = 1 | joined(0) = -1 | joined(5) = -1 | join(9) = -1 | join(-1) = -1 | joined(-1) = 1
            """);
        tellChildren(s, 6);
        for (int i = 0; i < 6; i++) {
            s.due("missing(" + i + ", 99999999)", i + 1);
        }
        s.run("""
            record(99999990) = 1 | record(99999990) = 2 | join(7) = 14 | joined(-1) = 30 | joined(0) = 0 | joined(1) = 1 | joined(2) = -1 | joined(5) = -1
            join(8) = 0 | joined(-1) = 1 | joined(0) = -1
            # promise 31: the MISSING that is joined behind others that are not
            record(12345678) = 3
            """);
        s.run("join(7) = 14 | joined(-1) = 30 | join(0) = 14 | joined(-1) = 120 | joined(0) = 0 | joined(1) = 1 | joined(2) = 2 | joined(3) = -1");
    }

    private static void visits(Script s) {
        s.run("# promises 35, 36: 9 VISITS");
        tellChildren(s, 9);
        for (int i = 0; i < 8; i++) {
            s.due("visit(" + i + ", 1, 1)", i + 1);
        }
        s.run("""
            round(0, 99, 2000, 0) = 255 | visit(8, 200, 1000) = 9 | visit(0, 1, 1) = -5 | visit(8, 200, 1000) = -5 | count(7) = 9
            round(0, 99, 240, 0) = 511 | round(0, 99, 240, 1) = 1008 | round(0, 99, 240, 2) = 240 | round(0, 99, 239, 0) = 383 | round(0, 99, 239, 1) = 1007 | round(0, 99, 239, 2) = 239
            round(8, 91, 200, 0) = 256 | round(8, 91, 199, 0) = 255 | round(8, 91, 199, 2) = 40 | round(0, 99, 0, 0) = 0 | round(0, 99, 1, 0) = 1
            image(0) = 0 | back(0) = 0 | visit(0, 1, 1) = -5 | round(0, 99, 240, 0) = 511
            # promise 36: too long for 2000 minutes: 9 times 200, 400 on the ways
            new
            child(9, false, 0, 0, 0) = 0 | child(9, false, 0, 99, 99) = 1
            """);
        for (int i = 0; i < 9; i++) {
            s.due("visit(" + (i == 0 ? 0 : 1) + ", 200, 1000)", i + 1);
        }
        s.run("""
            round(0, 0, 2000, 0) = 255 | round(0, 0, 2000, 1) = 8000 | round(0, 0, 2000, 2) = 1996 | round(0, 0, 1996, 0) = 255 | round(0, 0, 1995, 0) = 127
            round(99, 99, 2000, 0) = 510 | round(99, 99, 2000, 2) = 1600 | round(99, 0, 2000, 0) = 510 | round(99, 0, 2000, 2) = 1798 | round(0, 99, 2000, 2) = 1798
            """);
    }

    private static void draws(Script s) {
        s.run("# promises 38, 39: 12 DRAWN");
        tellChildren(s, 13);
        s.run("helped(0) = 1 | helped(1) = 1");
        for (int i = 0; i < 11; i++) {
            s.due("draw(" + i + ", 0, " + (i % 2 == 0 ? -100 : 100) + ")", i + 1);
        }
        s.run("""
            helped(0) = 1 | helped(1) = 1 | draw(11, 1, 100) = 12 | helped(1) = 12 | helped(0) = 6
            draw(12, 0, 0) = -5 | draw(12, 1, 100) = -5 | count(8) = 12 | helped(1) = 12 | helped(0) = 6
            image(1) = 0 | back(1) = 0 | draw(12, 1, 100) = -5 | draw(11, 1, 100) = -4 | helped(0) = 6
            # promise 39: all of 12, and 6 of 12 that did alike: as much is at least as much
            """);
        tellChildren(s, 12);
        for (int i = 0; i < 12; i++) {
            s.due("draw(" + i + ", 1, " + (i - 5) + ")", i + 1);
        }
        s.run("helped(0) = 1 | helped(1) = 1");
        for (int did = -100; did <= 100; did += 100) {
            tellChildren(s, 12);
            for (int i = 0; i < 12; i++) {
                s.due("draw(" + i + ", " + i % 2 + ", " + did + ")", i + 1);
            }
            s.run("helped(0) = 924 | helped(1) = 924");
        }
        tellChildren(s, 12);
        for (int i = 0; i < 12; i++) {
            s.due("draw(" + i + ", " + (i < 6 ? 0 : 1) + ", " + (i < 6 ? -100 : 100) + ")", i + 1);
        }
        s.run("helped(0) = 1 | helped(1) = 924");
    }

    private static void roomAgain(Script s) {
        s.run("# promise 45: behind back() there is as much room as there was");
        tellChildren(s, 39);
        s.run("""
            school() = 0 | school() = 1 | school() = 2 | school() = 3
            record(1) = 1 | record(1) = 2 | record(1) = 3 | record(1) = 4 | record(1) = 5 | image(0) = 0 | record(1) = 6 | record(1) = -5
            child(3, true, 7, 0, 0) = 39 | child(3, true, 7, 0, 0) = -5 | school() = 4 | school() = -5 | image(1) = 0
            back(0) = 0 | count(0) = 39 | count(1) = 4 | count(5) = 5 | comes(39, 0, 0) = -2 | comes(0, 4, 0) = -2 | goes(0, 0, 0, 4) = -1
            record(1) = 6 | record(1) = -5 | child(18, true, 7, 0, 0) = 39 | child(3, true, 7, 0, 0) = -5 | school() = 4 | school() = -5
            back(1) = 0 | record(1) = -5 | child(3, true, 7, 0, 0) = -5 | school() = -5 | comes(39, 4, 0) = 1
            """);
    }
}
