/** Promises 27 to 40: rolls, last seen, joins, marks that can't be, rounds, dips, draws, other acts tried. */
public final class ListsTest {
    private static final String BASE = """
        new
        child(10, true, 2, 0, 0) = 0 | child(7, false, -1, 3, 4) = 1 | child(5, false, 1, 0, 0) = 2
        school() = 0 | school() = 1 | school() = 2
        """;

    public static void main(String[] args) {
        Script s = new Script("ListsTest");
        rolls(s);
        seen(s);
        joins(s);
        cannot(s);
        rounds(s);
        dips(s);
        draws(s);
        beside(s);
        s.close();
    }

    private static void rolls(Script s) {
        s.run(BASE).run("""
            # promise 27: no roll
            child(4, false, -1, 0, 0) = 3 | child(16, false, -1, 0, 0) = 4 | child(17, false, -1, 0, 0) = 5
            rolls(0, 0, -1) = 4 | rolls(0, 0, 0) = 0 | rolls(0, 0, 1) = 1 | rolls(0, 0, 2) = 2 | rolls(0, 0, 3) = 4 | rolls(0, 0, 4) = -1
            has(1, 1, 2, 4) = 1 | has(2, 0, 2, 4) = 1
            rolls(1, 0, -1) = 4 | rolls(2, 0, -1) = 3 | rolls(2, 0, 1) = 2 | rolls(4, 0, -1) = 3 | rolls(5, 0, -1) = 4
            comes(0, 0, 3) = 1 | goes(0, 0, 6, -1) = 0
            rolls(2, 0, 0) = 0 | rolls(3, 0, 0) = 2 | rolls(5, 0, 0) = 1 | rolls(6, 0, 0) = 0
            # promise 27: two
            comes(1, 0, 0) = 2 | comes(1, 1, 5) = 3 | comes(3, 0, 0) = 4 | comes(3, 2, 9) = 5
            rolls(4, 1, -1) = 0 | rolls(5, 1, -1) = 1 | rolls(5, 1, 0) = 1 | rolls(9, 1, -1) = 2 | rolls(9, 1, 1) = 3 | rolls(9, 1, 2) = -1
            goes(1, 0, 12, 2) = 0 | rolls(11, 1, -1) = 2 | rolls(12, 1, -1) = 1 | rolls(12, 1, 0) = 3
            # promise 27: lost
            rolls(11, 2, -1) = 0 | rolls(12, 2, -1) = 1 | rolls(12, 2, 0) = 1 | rolls(399, 2, -1) = 1
            comes(1, 2, 15) = 6 | rolls(14, 2, -1) = 1 | rolls(15, 2, -1) = 0
            goes(1, 2, 20, -1) = 0 | rolls(399, 2, -1) = 0
            goes(3, 0, 10, 2) = 0 | rolls(10, 2, -1) = 0
            # promise 27: one that had gone off the other roll by then is lost
            comes(4, 1, 0) = 7 | goes(4, 1, 3, -1) = 0 | comes(4, 0, 0) = 8 | goes(4, 0, 3, 1) = 0
            rolls(2, 2, -1) = 0 | rolls(3, 2, -1) = 1 | rolls(3, 2, 0) = 4
            # promise 27: lost by the first roll that was told
            new
            child(9, false, 0, 0, 0) = 0 | school() = 0 | school() = 1 | comes(0, 0, 0) = 1 | goes(0, 0, 3, 1) = 0
            rolls(2, 2, -1) = 0 | rolls(3, 2, -1) = 1 | rolls(3, 2, 0) = 0
            # promise 27: gone off to the school that it left
            comes(0, 1, 9) = 2 | rolls(9, 2, -1) = 0 | goes(0, 1, 12, 1) = 0 | rolls(12, 2, -1) = 1 | comes(0, 1, 14) = 3 | rolls(14, 2, -1) = 0
            rolls(-1, 0, -1) = -1 | rolls(400, 0, -1) = -1 | rolls(0, 3, -1) = -1 | rolls(0, -1, -1) = -1 | rolls(0, 0, -2) = -1
            """);
    }

    private static void seen(Script s) {
        s.run(BASE).run("""
            # promise 28
            comes(0, 0, 0) = 1 | comes(0, 1, 0) = 2
            text code a here;code b late;code c allowed;code d away
            act(0) = 0
            seen(0, 399, 399) = -1
            mark(0, 0, 0, 0, 0, 0) = 0 | mark(0, 0, 3, 1, 0, 4) = 1 | mark(0, 0, 4, 2, 0, 0) = 2 | mark(1, 0, 5, 3, 0, 0) = 3 | mark(0, 0, 7, 25, 0, 0) = 4
            seen(0, 0, 0) = 0 | seen(0, 399, 3) = 0 | seen(0, 399, 4) = 3 | seen(0, 1, 4) = 3 | seen(0, 0, 4) = 0
            mark(0, 0, 2, 0, 0, 0) = 5 | seen(0, 399, 4) = 3 | seen(0, 399, 3) = 2
            appeal(3, 0, 9) = 0 | seen(0, 399, 9) = 5 | seen(0, 399, 8) = 3 | seen(0, 1, 9) = 3 | seen(0, 2, 9) = 5
            seen(0, 399, 400) = -1 | seen(0, 399, -1) = -1 | seen(0, 400, 9) = -1 | seen(0, 2147483647, 9) = -1
            mark(0, 0, 0, 3, 0, 0) = 6 | seen(0, 0, 9) = -1
            seen(1, 399, 399) = -1 | seen(3, 0, 0) = -1 | seen(-1, 0, 0) = -1 | seen(0, 400, 0) = -1 | seen(0, -1, 0) = -1 | seen(0, 0, 400) = -1 | seen(0, 0, -1) = -1
            """);
    }

    private static void joins(Script s) {
        s.run(BASE).run("""
            # promise 29
            joined(-1) = -1 | joined(0) = -1
            record(0) = 1 | record(99999999) = 2 | status() = 0
            record(-1) = -1 | record(100000000) = -1 | status() = -1
            record(1) = 3 | record(1) = 4 | record(2) = 5 | record(3) = 6 | record(4) = -5 | status() = -5 | record(-1) = -1 | count(5) = 6
            # promise 30
            missing(0, 0) = 1 | status() = 0 | missing(0, 1) = -4 | status() = -4
            missing(0, -1) = -1 | missing(9, 100000000) = -1 | missing(3, 0) = -2 | missing(-1, 0) = -2 | status() = -2
            child(9, false, 0, 0, 0) = 3 | child(9, false, 0, 0, 0) = 4 | child(9, false, 0, 0, 0) = 5 | child(9, false, 0, 0, 0) = 6
            missing(1, 99999999) = 2 | missing(2, 7) = 3 | missing(3, 7) = 4 | missing(4, 7) = 5 | missing(5, 7) = 6
            missing(6, 7) = -5 | status() = -5 | missing(5, 7) = -4 | count(6) = 6
            # promises 31, 32, 33
            join(-1) = -1 | join(9) = -1 | joined(-1) = -1
            join(8) = 16 | joined(-1) = 1 | joined(0) = 0 | joined(1) = 1 | joined(2) = -1 | joined(5) = -1 | joined(6) = -1 | joined(-2) = -1
            join(0) = 44 | joined(-1) = 24 | joined(0) = 0 | joined(1) = 1 | joined(2) = 2 | joined(3) = 3 | joined(4) = 4 | joined(5) = 5
            judge(15, 8) = 16 | judge(15, 0) = 16 | judge(0, 8) = 0 | judge(1, 8) = 8 | judge(2, 0) = 0 | judge(2, 1) = -1
            judge(8, 0) = -1 | judge(-1, 0) = -1 | judge(0, 9) = -1 | judge(0, -1) = -1 | judge(6, 0) = 7 | judge(117649, 0) = -1
            judge(2147483647, 0) = -1
            join(12) = -1 | joined(-1) = 24
            # promise 31: of alike ones the most joined, then the first as rows
            new
            child(9, false, 0, 0, 0) = 0 | child(9, false, 0, 0, 0) = 1 | child(9, false, 0, 0, 0) = 2
            join(0) = 0 | joined(-1) = 1 | joined(0) = -1
            record(11111111) = 1 | join(0) = 0 | joined(-1) = 1
            missing(0, 22222222) = 1 | judge(1, 0) = 0 | judge(1, 1) = -1 | judge(2, 0) = -1 | judge(7, 0) = -1
            joined(0) = -1 | join(0) = 0 | joined(-1) = 1 | joined(0) = 0
            join(1) = 0 | joined(-1) = 1 | joined(0) = -1
            missing(1, 11112222) = 2 | join(0) = 4 | joined(0) = -1 | joined(1) = 0 | joined(-1) = 1
            missing(2, 22221111) = 3 | join(1) = 4 | joined(0) = -1 | joined(1) = 0 | joined(2) = -1 | joined(-1) = 2
            record(11112222) = 2 | join(0) = 12 | joined(0) = -1 | joined(1) = 1 | joined(2) = 0 | joined(-1) = 1
            # promises 29, 31: figures that begin with 0
            new
            child(9, false, 0, 0, 0) = 0 | record(1) = 1 | missing(0, 0) = 1 | join(7) = 7 | join(8) = 0
            """);
    }

    private static void cannot(Script s) {
        s.run(BASE).run("""
            # promise 34
            comes(0, 0, 0) = 1 | comes(0, 1, 0) = 2 | comes(1, 0, 0) = 3 | comes(0, 2, 0) = 4
            text code a here;code b late;code c allowed;code d away
            act(0) = 0
            mark(0, 0, 4, 0, 0, 0) = 0 | mark(1, 0, 4, 1, 9, 2) = 1 | mark(2, 0, 4, 3, 0, 0) = 2
            cannot(0, 799, 1, -1) = 0 | cannot(0, 799, 2, -1) = 2 | cannot(0, 799, 2, 0) = 0 | cannot(0, 799, 2, 1) = 1 | cannot(0, 799, 2, 2) = -1
            cannot(4, 4, 2, -1) = 2 | cannot(0, 3, 2, -1) = 0 | cannot(5, 799, 2, -1) = 0
            mark(1, 0, 4, 2, 0, 5) = 3 | cannot(0, 799, 5, -1) = 0 | cannot(0, 799, 4, -1) = 2
            # promise 34: buses that failed
            failed(2, 2) = 1 | failed(1, 2) = 2 | mark(0, 0, 2, 0, 0, 0) = 4 | cannot(0, 799, 5, -1) = 1 | cannot(0, 799, 5, 0) = 4
            failed(2, 3) = 3 | mark(0, 0, 3, 0, 1, 0) = 5 | failed(2, 6) = 4 | mark(0, 0, 6, 1, 0, 0) = 6 | mark(0, 1, 2, 0, 0, 0) = 7
            failed(2, 7) = 5 | mark(0, 0, 7, 3, 0, 0) = 8
            cannot(0, 799, 5, -1) = 1
            appeal(8, 0, 5) = 0 | cannot(0, 799, 5, -1) = 2 | cannot(0, 799, 5, 1) = 8 | cannot(0, 799, 4, -1) = 3
            cannot(1, 0, 0, -1) = -1 | cannot(-1, 0, 0, -1) = -1 | cannot(0, 800, 0, -1) = -1 | cannot(0, 0, -1, -1) = -1 | cannot(0, 0, 400, -1) = -1
            cannot(0, 799, 5, -2) = -1
            """);
    }

    private static void rounds(Script s) {
        s.run("""
            # promise 35
            new
            visit(0, 1, 1) = -2
            child(9, false, 0, 0, 0) = 0 | child(9, false, 0, 10, 0) = 1 | child(9, false, 0, 10, 10) = 2 | child(9, false, 0, 0, 10) = 3
            round(0, 0, 2000, 0) = 0 | round(0, 0, 2000, 1) = 0 | round(0, 0, 0, 2) = 0
            visit(0, 0, 1) = -1 | visit(0, 201, 1) = -1 | visit(0, 1, 0) = -1 | visit(0, 1, 1001) = -1 | visit(9, 0, 1) = -1 | status() = -1
            visit(4, 1, 1) = -2 | visit(-1, 1, 1) = -2 | status() = -2
            visit(2, 5, 10) = 1 | visit(1, 5, 4) = 2 | visit(3, 5, 4) = 3 | status() = 0
            # promise 36: 20 + 20 on the ways round the corners
            round(0, 0, 55, 0) = 7 | round(0, 0, 55, 1) = 18 | round(0, 0, 55, 2) = 55
            round(0, 0, 54, 0) = 3 | round(0, 0, 54, 1) = 14 | round(0, 0, 54, 2) = 50
            round(0, 0, 49, 0) = 1 | round(0, 0, 49, 2) = 45 | round(0, 0, 44, 0) = 2 | round(0, 0, 44, 1) = 4 | round(0, 0, 44, 2) = 25
            round(0, 0, 24, 0) = 0 | round(0, 0, 24, 1) = 0 | round(0, 0, 24, 2) = 0 | round(10, 10, 5, 0) = 1 | round(10, 10, 4, 0) = 0
            round(99, 99, 2000, 2) = 411 | round(99, 99, 2000, 0) = 7
            # promise 36: fewer minutes go ahead of lower bits
            visit(0, 4, 4) = 4 | round(0, 0, 28, 0) = 8 | round(0, 0, 28, 2) = 4 | round(0, 0, 44, 0) = 10 | round(0, 0, 29, 0) = 10 | round(0, 0, 29, 1) = 8 | round(0, 0, 29, 2) = 29
            round(-1, 0, 0, 0) = -1 | round(100, 0, 0, 0) = -1 | round(0, -1, 0, 0) = -1 | round(0, 100, 0, 0) = -1 | round(0, 0, -1, 0) = -1
            round(0, 0, 2001, 0) = -1 | round(0, 0, 0, 3) = -1 | round(0, 0, 0, -1) = -1
            # promise 35: nine, one child often
            visit(0, 200, 1000) = 5 | visit(0, 1, 1) = 6 | visit(0, 1, 1) = 7 | visit(0, 1, 1) = 8 | visit(0, 1, 1) = 9
            visit(0, 1, 1) = -5 | status() = -5 | visit(9, 1, 1) = -2 | count(7) = 9
            round(0, 0, 2000, 0) = 511 | round(0, 0, 2000, 1) = 1026 | round(0, 0, 2000, 2) = 263
            """);
    }

    private static void dips(Script s) {
        s.run(BASE).run("""
            # promise 37
            comes(0, 0, 0) = 1 | comes(1, 1, 0) = 2 | comes(2, 2, 0) = 3
            text code a here;code d away
            act(0) = 0
            dips(0, 0, 1, 0) = 0 | dips(0, 0, 1, 1) = 0
            mark(0, 0, 14, 3, 0, 0) = 0 | dips(1, 0, 1, 0) = 0 | dips(1, 0, 1, 1) = 1 | dips(0, 0, 1, 1) = 0 | dips(2, 0, 1, 1) = 0
            mark(1, 1, 14, 0, 0, 0) = 1 | mark(2, 2, 14, 25, 0, 0) = 2 | dips(1, 0, 1, 1) = 2
            mark(0, 0, 15, 3, 0, 0) = 3 | mark(1, 1, 15, 0, 0, 0) = 4 | dips(1, 0, 1, 0) = 1 | dips(1, 0, 2, 0) = 0
            mark(0, 0, 23, 3, 0, 3) = 5 | mark(1, 1, 23, 0, 0, 0) = 6 | mark(0, 0, 28, 3, 0, 0) = 7
            dips(1, 3, 1, 0) = 1 | dips(2, 3, 1, 1) = 1 | dips(2, 3, 1, 0) = 0
            # promise 37: as much as chance is not beyond it: 1 of 1 away against 0 of 2; then 2 of 2 against 0 of 7 by 2
            mark(0, 0, 42, 3, 0, 0) = 8 | mark(1, 1, 42, 0, 0, 0) = 9 | mark(1, 1, 43, 0, 0, 0) = 10 | dips(3, 0, 1, 0) = 0
            mark(1, 1, 44, 0, 0, 0) = 11 | dips(3, 0, 1, 0) = 1
            mark(0, 0, 43, 3, 0, 0) = 12 | mark(1, 1, 45, 0, 0, 0) = 13 | mark(1, 1, 46, 0, 0, 0) = 14 | mark(1, 1, 47, 0, 0, 0) = 15
            dips(3, 0, 2, 0) = 0 | mark(1, 1, 48, 0, 0, 0) = 16 | dips(3, 0, 2, 0) = 0 | mark(1, 1, 49, 0, 0, 0) = 17 | dips(3, 0, 2, 0) = 1
            dips(-1, 0, 1, 0) = -1 | dips(58, 0, 1, 0) = -1 | dips(57, 0, 1, 0) = 0 | dips(0, -1, 1, 0) = -1 | dips(0, 400, 1, 0) = -1
            dips(0, 0, 0, 0) = -1 | dips(0, 0, 21, 0) = -1 | dips(0, 0, 20, 0) = 0 | dips(0, 0, 1, 2) = -1 | dips(0, 0, 1, -1) = -1
            """);
        s.run(BASE).run("""
            # promise 37: many marks, and the greatest T: 50 of 50 away against none of 50
            comes(0, 0, 0) = 1 | comes(1, 1, 0) = 2
            text code a here;code d away
            act(0) = 0
            child(9, false, -1, 0, 0) = 3 | child(9, false, -1, 0, 0) = 4 | child(9, false, -1, 0, 0) = 5 | child(9, false, -1, 0, 0) = 6
            """);
        int rolls = 2;
        int marks = 0;
        for (int child = 0; child < 5; child++) {
            int at = child == 1 ? 5 : child;
            int beside = child == 0 ? 1 : child == 1 ? 6 : child;
            if (child > 0) {
                rolls++;
                s.due("comes(" + at + ", 0, 0)", rolls);
                rolls++;
                s.due("comes(" + beside + ", 1, 0)", rolls);
            }
            for (int half = 0; half < 10; half++) {
                s.due("mark(0, " + at + ", " + half + ", 3, 0, 0)", marks++);
                s.due("mark(1, " + beside + ", " + half + ", 0, 0, 0)", marks++);
            }
        }
        // 99 (5000 - 2500)^2 is 618,750,000: T squared times 2 times 6,250,000 lies below it up to T 7
        s.run("dips(0, 0, 7, 0) = 1 | dips(0, 0, 8, 0) = 0 | dips(0, 0, 20, 0) = 0 | dips(0, 0, 20, 1) = 2");
    }

    private static void draws(Script s) {
        s.run(BASE).run("""
            # promises 38, 39
            helped(0) = 1 | helped(1) = 1 | helped(2) = -1 | helped(-1) = -1
            draw(0, 2, 0) = -1 | draw(0, -1, 0) = -1 | draw(0, 0, 101) = -1 | draw(0, 0, -101) = -1 | draw(9, 0, 101) = -1 | status() = -1
            draw(3, 0, 0) = -2 | draw(-1, 0, 0) = -2 | status() = -2
            draw(0, 1, 100) = 1 | status() = 0 | draw(0, 0, 0) = -4 | status() = -4 | helped(0) = 1 | helped(1) = 1
            draw(1, 0, -100) = 2 | helped(0) = 1 | helped(1) = 2
            draw(2, 0, 100) = 3 | helped(0) = 2 | helped(1) = 3
            """);
        for (int i = 3; i < 13; i++) {
            s.due("child(9, false, -1, 0, 0)", i);
        }
        for (int i = 3; i < 12; i++) {
            s.due("draw(" + i + ", " + (i < 8 ? 1 : 0) + ", 0)", i + 1);
        }
        s.run("""
            # promise 39: 6 of 12; at least 100 without the one at -100: both 210, one of the two 2 * 126
            draw(12, 0, 0) = -5 | status() = -5 | draw(11, 0, 0) = -4 | count(8) = 12
            helped(1) = 924 | helped(0) = 462
            """);
    }

    private static void beside(Script s) {
        s.run(BASE).run("""
            # promise 40
            comes(0, 0, 0) = 1 | comes(1, 1, 0) = 2
            text code a here;code d away
            act(0) = 0
            mark(0, 0, 0, 3, 0, 0) = 0 | mark(0, 0, 2, 3, 0, 4) = 1 | mark(0, 0, 4, 0, 0, 0) = 2 | mark(1, 1, 4, 25, 0, 0) = 3 | mark(0, 0, 4, 3, 0, 9) = 4
            text code d here
            beside(0, 0) = 1 | fault() = -1 | count(9) = 0 | count(4) = 1
            text code d here
            beside(0, 4) = 2
            text code d here
            beside(1, 4) = 1
            text code d here
            beside(0, 9) = 3
            text code d away;code z none
            beside(0, 9) = 0
            text code z here
            beside(0, 9) = 1
            text strike 0 clause 1
            beside(0, 9) = 3
            text strike 1 clause 1;strike 1 clause 0;code d away
            beside(0, 9) = 0
            # promise 40: nothing of it stays
            tells(0, 0, 0, 0, 3) = 3 | force(0, 1, 0) = 1 | force(1, 0, 0) = -1
            text code d
            beside(0, 0) = -1 | fault() = 6 | count(9) = 0
            text code d here
            beside(-1, 0) = -1 | beside(400, 0) = -1 | beside(0, -1) = -1 | beside(0, 400) = -1 | count(9) = 11 | fault() = 6
            beside(399, 399) = 0 | count(9) = 0 | fault() = -1 | beside(0, 0) = -1 | fault() = 0 | status() = 0
            """);
        for (int i = 1; i < 20; i++) {
            if (i == 19) {
                s.run("text code d here").due("beside(0, 9)", 3);
            }
            s.run("text off").due("act(0)", i);
        }
        s.run("""
            # promise 40: no room
            text code d here
            beside(0, 9) = -1 | fault() = -1 | count(9) = 11 | count(4) = 20
            """);
    }
}
