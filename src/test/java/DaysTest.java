/** The first and the last DAY, HALF and WEEK, weekends, and spans of DAYS at both of their ends, in every call that has them. */
public final class DaysTest {
    private static final String BASE = """
        new
        child(10, true, 2, 0, 0) = 0 | child(7, false, -1, 3, 4) = 1 | school() = 0 | school() = 1
        comes(0, 0, 0) = 1 | comes(1, 0, 0) = 2 | comes(0, 1, 0) = 3
        text code a here;code b late;code c allowed;code d away
        act(0) = 0
        """;

    public static void main(String[] args) {
        Script s = new Script("DaysTest");
        weekends(s);
        rolls(s);
        spans(s);
        knowledge(s);
        force(s);
        rates(s);
        due(s);
        taken(s);
        quick(s);
        latest84(s);
        lists(s);
        weeks(s);
        keeps(s);
        s.close();
    }

    private static void weekends(Script s) {
        s.run(BASE).run("""
            # promise 10: no MARK on weekdays 5, 6
            mark(0, 0, 0, 0, 0, 0) = 0 | mark(0, 0, 1, 0, 0, 0) = 1 | mark(0, 0, 8, 0, 0, 0) = 2 | mark(0, 0, 9, 0, 0, 0) = 3
            mark(0, 0, 10, 0, 0, 0) = -3 | mark(0, 0, 11, 0, 0, 0) = -3 | mark(0, 0, 12, 0, 0, 0) = -3 | mark(0, 0, 13, 0, 0, 0) = -3
            mark(0, 0, 14, 0, 0, 0) = 4 | mark(0, 0, 792, 0, 0, 0) = 5 | mark(0, 0, 793, 0, 0, 0) = 6
            mark(0, 0, 794, 0, 0, 0) = -3 | mark(0, 0, 795, 0, 0, 0) = -3 | mark(0, 0, 796, 0, 0, 0) = -3 | mark(0, 0, 797, 0, 0, 0) = -3
            mark(0, 0, 798, 0, 0, 0) = 7 | mark(0, 0, 799, 0, 0, 0) = 8 | mark(0, 0, 800, 0, 0, 0) = -1 | mark(0, 0, -1, 0, 0, 0) = -1
            # promises 4, 10: none on a DAY on which the SCHOOL is SHUT; a weekend's DAY may be told too
            shut(0, 0) = 0 | shut(0, 399) = 0 | shut(0, 5) = 0 | shut(0, 5) = -4 | shut(0, 398) = 0
            mark(0, 0, 0, 0, 0, 0) = -3 | mark(0, 0, 1, 0, 0, 0) = -3 | mark(0, 0, 2, 0, 0, 0) = 9 | mark(1, 0, 0, 0, 0, 0) = 10
            mark(0, 0, 798, 0, 0, 0) = -3 | mark(0, 0, 799, 0, 0, 0) = -3 | mark(0, 0, 793, 0, 0, 0) = 11 | mark(1, 0, 799, 0, 0, 0) = 12
            # promise 12: what was told ahead of that stays
            tells(0, 0, 0, 0, 0) = 0 | tells(0, 0, 799, 0, 0) = 8
            """);
    }

    private static void rolls(Script s) {
        s.run("""
            # promises 5 to 7: on from the first DAY up to the one ahead of that on which it goes off
            new
            child(5, true, 2, 0, 0) = 0 | child(16, false, -1, 3, 4) = 1 | child(4, false, -1, 3, 4) = 2 | child(17, false, -1, 3, 4) = 3 | school() = 0 | school() = 1
            comes(0, 0, 0) = 1 | isOn(0, 0, 0) = 1 | isOn(0, 0, 399) = 1 | goes(0, 0, 0, -1) = 0 | isOn(0, 0, 0) = 0 | isOn(0, 0, 1) = 0 | mark(0, 0, 0, 0, 0, 0) = -3
            comes(0, 0, 0) = -3 | comes(0, 0, 1) = 2 | isOn(0, 0, 0) = 0 | isOn(0, 0, 1) = 1 | goes(0, 0, 0, -1) = -3 | goes(0, 0, 399, -1) = 0
            isOn(0, 0, 398) = 1 | isOn(0, 0, 399) = 0 | mark(0, 0, 793, 0, 0, 0) = 0 | mark(0, 0, 798, 0, 0, 0) = -3 | comes(0, 0, 398) = -3 | comes(0, 0, 399) = 3 | isOn(0, 0, 399) = 1
            mark(0, 0, 799, 0, 0, 0) = 1 | comes(0, 0, 399) = -3 | goes(0, 0, 398, -1) = -3 | goes(0, 0, 399, -1) = 0 | goes(0, 0, 399, -1) = -3 | isOn(0, 0, 399) = 0
            comes(0, 0, 399) = -3 | isOn(0, 0, 398) = 1 | mark(0, 0, 799, 0, 0, 0) = -3
            # promise 5: told to come on a later DAY, an earlier one can't be, though it is on no roll then
            comes(1, 0, 200) = 4 | comes(1, 0, 199) = -3 | comes(1, 0, 0) = -3 | comes(1, 0, 200) = -3 | goes(1, 0, 200, -1) = 0 | comes(1, 0, 199) = -3 | comes(1, 0, 200) = -3 | comes(1, 0, 201) = 5
            goes(1, 0, 210, 1) = 0 | comes(1, 0, 209) = -3 | comes(1, 0, 201) = -3 | comes(1, 0, 210) = 6 | goes(1, 0, 399, 0) = 0
            # promise 27: NO ROLL of those born 5 .. 16 YEARS ago; LOST from the DAY on which it went off on
            rolls(0, 0, -1) = 2 | rolls(0, 0, 0) = 0 | rolls(0, 0, 1) = 1 | rolls(398, 0, -1) = 0 | rolls(399, 0, -1) = 2
            rolls(209, 2, -1) = 0 | rolls(210, 2, -1) = 1 | rolls(210, 2, 0) = 1 | rolls(398, 2, -1) = 1 | rolls(399, 2, -1) = 1
            comes(1, 1, 398) = 7 | rolls(397, 2, -1) = 1 | rolls(398, 2, -1) = 0 | rolls(399, 2, -1) = 1 | rolls(399, 2, 0) = 1
            # promise 27: LOST on the first DAY; on the other roll on that DAY alone
            comes(2, 0, 0) = 8 | goes(2, 0, 0, 1) = 0 | rolls(0, 2, -1) = 1 | rolls(0, 2, 0) = 2 | comes(2, 1, 0) = 9 | rolls(0, 2, -1) = 0 | goes(2, 1, 1, -1) = 0 | rolls(0, 2, -1) = 0 | rolls(390, 2, -1) = 1
            comes(3, 0, 0) = 10 | comes(3, 1, 0) = 11 | goes(3, 1, 7, -1) = 0 | goes(3, 0, 7, 1) = 0 | rolls(6, 2, -1) = 0 | rolls(7, 2, -1) = 1 | rolls(7, 2, 0) = 3
            # promise 27: TWO
            rolls(0, 1, -1) = 1 | rolls(0, 1, 0) = 3 | rolls(6, 1, -1) = 1 | rolls(7, 1, -1) = 0
            """);
    }

    private static void spans(Script s) {
        s.run(BASE).run("""
            # promise 9: part days and home, from the first DAY to the last one of each, both within
            text off if part;off if home;code e away if part;code f away if home;code g away if bus;off if bus
            act(0) = 1
            off(0, 0, 0) = 0 | has(0, 0, 0, 0) = 1 | off(0, 0, 0) = 1 | off(0, 1, 0) = 0 | off(1, 0, 0) = 0
            has(0, 1, 399, 399) = 1 | off(0, 398, 0) = 0 | off(0, 399, 0) = 1 | has(1, 0, 0, 399) = 2 | off(1, 0, 0) = 1 | off(1, 200, 0) = 1 | off(1, 399, 0) = 1
            mark(0, 0, 0, 4, 0, 0) = 0 | mark(0, 0, 1, 4, 0, 0) = 1 | mark(0, 0, 2, 4, 0, 0) = 2 | mark(0, 0, 798, 5, 0, 0) = 3 | mark(0, 0, 799, 5, 0, 0) = 4 | mark(0, 0, 793, 5, 0, 0) = 5
            rate(0, 0, 799, 0, 1) = 4 | rate(0, 0, 1, 0, 1) = 2 | rate(0, 798, 799, 0, 1) = 2 | tells(0, 0, 2, 0, 3) = 4 | tells(0, 0, 793, 0, 3) = 4
            # promise 8: a bus fails in a HALF alone, the first and the last one
            mark(0, 0, 0, 6, 0, 0) = 6 | mark(0, 0, 1, 6, 0, 0) = 7 | mark(0, 0, 798, 6, 0, 0) = 8 | mark(0, 0, 799, 6, 0, 0) = 9
            failed(2, 0) = 1 | failed(2, 799) = 2 | tells(0, 0, 0, 0, 3) = 3 | tells(0, 0, 1, 0, 3) = 4 | tells(0, 0, 798, 0, 3) = 4 | tells(0, 0, 799, 0, 3) = 3
            # promise 26: in the DAY's first HALF
            failed(2, 41) = 3 | off(0, 20, 0) = 0 | failed(2, 40) = 4 | off(0, 20, 0) = 1 | off(0, 21, 0) = 0 | off(0, 19, 0) = 0 | failed(1, 42) = 5 | off(0, 21, 0) = 0
            # promise 27: at HOME on the first and the last DAY of it
            goes(1, 0, 100, -1) = 0 | has(1, 1, 110, 120) = 2 | rolls(109, 0, -1) = 1 | rolls(110, 0, -1) = 0 | rolls(120, 0, -1) = 0 | rolls(121, 0, -1) = 1
            """);
    }

    private static void knowledge(Script s) {
        s.run(BASE).run("""
            # promises 10 to 13: known from the first DAY, from the last one
            mark(0, 0, 799, 0, 1, 0) = 0 | mark(0, 0, 799, 1, 2, 399) = 1 | tells(0, 0, 799, 0, 0) = 0 | tells(0, 0, 799, 398, 0) = 0 | tells(0, 0, 799, 399, 0) = 1
            sees(0, 0, 0, 799, 398) = 0 | sees(0, 0, 0, 799, 399) = 1 | sees(3, 0, 0, 799, 0) = 0
            mark(0, 0, 0, 3, 0, 399) = 2 | tells(0, 0, 0, 398, 0) = -1 | sees(0, 0, 0, 0, 398) = -1 | tells(0, 0, 0, 399, 0) = 2 | sees(0, 0, 0, 0, 399) = 3
            appeal(2, 0, 399) = 0 | tells(0, 0, 0, 399, 1) = 0 | sees(0, 0, 0, 0, 399) = 0 | appeal(0, 3, 0) = 0 | tells(0, 0, 799, 0, 1) = 3 | tells(0, 0, 799, 399, 1) = 1
            mark(0, 1, 0, 3, 0, 0) = 3 | appeal(3, 25, 399) = 0 | tells(0, 1, 0, 398, 1) = 3 | tells(0, 1, 0, 399, 1) = 25 | tells(0, 1, 0, 399, 3) = 4 | tells(0, 1, 0, 399, 4) = -1
            # promise 12: told later but known from an earlier DAY: the one told last of those that are known
            mark(0, 0, 4, 0, 0, 10) = 4 | mark(0, 0, 4, 1, 0, 5) = 5 | mark(0, 0, 4, 2, 0, 10) = 6 | mark(0, 0, 4, 3, 0, 4) = 7
            tells(0, 0, 4, 3, 0) = -1 | tells(0, 0, 4, 4, 0) = 7 | tells(0, 0, 4, 5, 0) = 7 | tells(0, 0, 4, 10, 0) = 7 | rate(0, 4, 4, 3, 0) = 0 | rate(0, 4, 4, 10, 0) = 1 | rate(0, 4, 4, 10, 1) = 1
            mark(0, 0, 6, 3, 0, 4) = 8 | mark(0, 0, 6, 2, 0, 10) = 9 | mark(0, 0, 6, 1, 0, 5) = 10
            tells(0, 0, 6, 4, 0) = 8 | tells(0, 0, 6, 5, 0) = 10 | tells(0, 0, 6, 9, 0) = 10 | tells(0, 0, 6, 10, 0) = 10 | rate(0, 6, 6, 4, 1) = 1 | rate(0, 6, 6, 10, 0) = 1 | rate(0, 6, 6, 10, 1) = 0
            """);
    }

    private static void force(Script s) {
        s.run(BASE).run("""
            # promises 16, 18: in force from the first DAY, from the last one
            force(0, 0, 0) = 1 | force(0, 0, 399) = 1 | mark(0, 0, 793, 0, 0, 0) = 0 | mark(0, 0, 798, 0, 0, 0) = 1 | mark(0, 0, 799, 0, 0, 0) = 2
            text code a away if day=399 and week=57 and half=1;strike 0 clause 1
            act(399) = 1 | force(1, 0, 398) = 0 | force(1, 0, 399) = 1 | force(0, 1, 398) = 1 | force(0, 1, 399) = 0
            tells(0, 0, 793, 0, 3) = 0 | tells(0, 0, 798, 0, 3) = 0 | tells(0, 0, 799, 0, 3) = 3 | tells(0, 0, 799, 0, 4) = 12 | tells(0, 0, 798, 0, 4) = 0
            mark(0, 0, 792, 1, 0, 0) = 3 | mark(1, 0, 799, 1, 0, 0) = 4 | tells(0, 0, 792, 0, 3) = 1 | tells(1, 0, 799, 0, 3) = 4
            # promise 18: the TEXT told later goes ahead, though it is in force from an earlier DAY
            text code a late if day=0 and week=0 and half=0;code a allowed if day=399
            act(0) = 2 | mark(0, 0, 0, 0, 0, 0) = 5 | mark(0, 0, 1, 0, 0, 0) = 6 | tells(0, 0, 0, 0, 3) = 1 | tells(0, 0, 0, 0, 4) = 24 | tells(0, 0, 1, 0, 3) = 0 | tells(0, 0, 799, 0, 3) = 2 | tells(0, 0, 799, 0, 4) = 25
            # promise 40: tried from the last DAY on, from the first one
            text code a none
            beside(399, 0) = 2
            text code a none
            beside(0, 0) = 5
            text code a none
            beside(396, 0) = 3
            text code a none
            beside(397, 0) = 2
            """);
    }

    private static void rates(Script s) {
        s.run(BASE).run("""
            # promises 19, 20: the first HALF alone, the last one alone, all of them
            mark(0, 0, 0, 3, 0, 0) = 0 | mark(1, 0, 0, 0, 0, 0) = 1 | mark(0, 0, 1, 0, 0, 0) = 2 | mark(0, 0, 799, 3, 0, 0) = 3 | mark(0, 0, 798, 3, 0, 0) = 4
            rate(0, 0, 0, 0, 0) = 2 | rate(0, 0, 0, 0, 1) = 1 | rate(0, 0, 0, 0, 3) = 2 | rate(0, 1, 1, 0, 0) = 1 | rate(0, 1, 1, 0, 3) = 1 | rate(0, 2, 797, 0, 0) = 0 | rate(0, 2, 797, 0, 3) = 1
            rate(0, 799, 799, 0, 0) = 1 | rate(0, 799, 799, 0, 2) = 1 | rate(0, 798, 799, 0, 1) = 2 | rate(0, 0, 799, 0, 0) = 5 | rate(0, 0, 799, 0, 2) = 3 | rate(0, 0, 799, 0, 3) = 5 | rate(0, 0, 798, 0, 0) = 4 | rate(0, 1, 799, 0, 0) = 3
            dip(0, 0, 0, 0, 0) = 1 | dip(0, 799, 799, 0, 1) = 1 | dip(0, 0, 799, 0, 0) = 4 | dip(1, 0, 799, 0, 0) = 1 | dip(1, 1, 799, 0, 0) = 0 | dip(0, 1, 799, 0, 0) = 3 | dip(0, 0, 798, 0, 0) = 3
            rate(0, 799, 798, 0, 0) = -1 | rate(0, 1, 0, 0, 0) = -1 | dip(0, 799, 798, 0, 0) = -1 | dip(0, 1, 0, 0, 0) = -1 | cannot(1, 0, 0, -1) = -1 | cannot(799, 798, 0, -1) = -1
            """);
    }

    private static void due(Script s) {
        s.run(BASE).run("""
            # promise 21: DAYS d - k + 1 .. d, k from 1 to 400
            text step 0 2 in 400;step 1 2 in 399;step 2 1 in 1;step 3 2 in 1
            act(0) = 1
            mark(0, 0, 0, 3, 0, 0) = 0 | due(0, 0, 0, 0) = -1 | due(0, 2, 0, 0) = 0 | due(0, 2, 1, 0) = -1
            mark(0, 0, 799, 3, 0, 0) = 1 | due(0, 0, 0, 0) = 399 | due(0, 0, 399, 0) = 399 | due(0, 1, 0, 0) = -1 | due(0, 2, 1, 0) = 399 | due(0, 3, 0, 0) = -1
            mark(0, 0, 2, 3, 0, 0) = 2 | due(0, 0, 0, 0) = 1 | due(0, 1, 0, 0) = 1 | due(0, 1, 2, 0) = 399 | due(0, 3, 0, 0) = -1
            mark(0, 0, 798, 3, 0, 0) = 3 | due(0, 3, 0, 0) = 399 | mark(0, 0, 1, 3, 0, 0) = 4 | due(0, 3, 0, 0) = 0 | due(0, 3, 1, 0) = 399
            # promise 21: k DAYS, from the DAY itself back
            text step 0 2 in 4;step 1 2 in 5
            act(0) = 2
            mark(0, 1, 14, 3, 0, 0) = 5 | mark(0, 1, 22, 3, 0, 0) = 6 | due(1, 0, 0, 0) = -1 | due(1, 1, 0, 0) = 11
            # promise 21: n above 0; as many as n
            text step 0 0 in 400;step 1 0-1 in 400;step 2 2 in 400;step 3 3 in 400
            act(0) = 3
            due(1, 0, 0, 0) = -1 | due(1, 1, 0, 0) = -1 | due(1, 2, 0, 0) = 11 | due(1, 3, 0, 0) = -1
            # promise 21: a DAY with a POSSIBLE SESSION, here as well as away; none is none
            mark(0, 1, 28, 25, 0, 0) = 7 | due(1, 2, 12, 0) = -1 | mark(0, 1, 33, 0, 0, 0) = 8 | due(1, 2, 12, 0) = 16
            """);
    }

    private static void taken(Script s) {
        s.run(BASE).run("""
            # promises 22, 23: TAKEN on the first DAY, and on the last one
            text step 0 1 in 1;step 1 1 in 1;step 2 1 in 400;step 3 1 in 400;fine 0 7 quick 400;fine 1 7 quick 1
            act(0) = 1
            mark(0, 0, 0, 3, 0, 0) = 0 | mark(0, 0, 2, 3, 0, 0) = 1 | mark(0, 0, 799, 3, 0, 0) = 2 | mark(0, 1, 799, 3, 0, 399) = 3
            take(0, 0, 0) = 0 | stands(0, 0, 0) = 1 | stands(0, 0, 399) = 1 | take(0, 1, 0) = -3 | take(0, 1, 1) = 0 | stands(0, 1, 0) = 0 | stands(0, 1, 1) = 1
            take(0, 2, 398) = -3 | take(0, 2, 399) = 0 | stands(0, 2, 398) = 0 | stands(0, 2, 399) = 1 | take(0, 3, 399) = -3 | stands(0, 3, 399) = 0
            take(1, 0, 398) = -3 | take(1, 0, 399) = 0 | stands(1, 0, 398) = 0 | stands(1, 0, 399) = 1 | take(1, 1, 399) = -3
            # promise 22: on the DAY on which the one before was TAKEN it is not DUE yet, on the next one it may be
            mark(0, 1, 0, 3, 0, 0) = 4 | mark(0, 1, 2, 3, 0, 0) = 5 | take(1, 0, 0) = -4 | take(1, 0, 399) = -4
            # promises 24, 25: the first DAY and the last one
            fine(0, 0, 0, 0) = 7 | fine(0, 1, 0, 0) = -1 | fine(0, 1, 1, 0) = 7 | fine(0, 2, 398, 0) = -1 | fine(0, 2, 399, 0) = 0 | pay(0, 2, 398) = -3 | pay(0, 2, 399) = 0
            pay(0, 1, 0) = -3 | pay(0, 1, 1) = 3 | pay(1, 0, 398) = -3 | pay(1, 0, 399) = 3 | fine(1, 0, 398, 1) = -1 | fine(1, 0, 399, 1) = 0
            # promises 23, 25: undone as known from the last DAY on
            appeal(0, 0, 399) = 0 | stands(0, 0, 398) = 1 | stands(0, 0, 399) = 0 | stands(0, 1, 398) = 1 | stands(0, 1, 399) = 0 | fine(0, 1, 398, 2) = 0 | fine(0, 1, 399, 2) = 3
            fine(0, 0, 398, 1) = 7 | fine(0, 0, 399, 1) = 0 | fine(0, 0, 399, 2) = 0 | pay(0, 0, 399) = 3 | fine(0, 0, 399, 2) = 3 | fine(0, 0, 398, 2) = 0 | fine(0, 0, 398, 1) = 7
            """);
        s.run(BASE).run("""
            # promise 22: as known on the DAY on which it is TAKEN
            text step 0 1 in 1;step 1 1 in 9
            act(0) = 1
            mark(0, 0, 0, 3, 0, 10) = 0 | take(0, 0, 9) = -3 | take(0, 0, 10) = 0 | stands(0, 0, 9) = 0 | stands(0, 0, 10) = 1
            # promise 22: reckoned from the DAY behind, though AWAY SESSIONS of earlier DAYS are counted in k DAYS
            mark(0, 0, 14, 3, 0, 0) = 1 | take(0, 1, 11) = -3 | mark(0, 0, 22, 0, 0, 11) = 2 | take(0, 1, 10) = -3 | take(0, 1, 11) = 0
            # promise 23: what is told later undoes it too, as known from then on
            mark(0, 0, 0, 0, 0, 50) = 3 | stands(0, 0, 49) = 1 | stands(0, 0, 50) = 1 | mark(0, 0, 14, 0, 0, 60) = 4
            stands(0, 0, 59) = 1 | stands(0, 0, 60) = 0 | stands(0, 1, 59) = 1 | stands(0, 1, 60) = 0
            """);
    }

    private static void quick(Script s) {
        s.run("# promise 24: within the DAYS told behind \"quick\", the one on which it was TAKEN is the first of them");
        int[][] rows = {{1, 0, 3}, {1, 1, 7}, {2, 1, 3}, {2, 2, 7}, {400, 399, 3}, {399, 399, 7}, {399, 398, 3}, {3, 0, 3}};
        for (int[] row : rows) {
            s.run("new\nchild(9, false, -1, 0, 0) = 0 | school() = 0 | comes(0, 0, 0) = 1");
            s.put("code d away;step 0 1 in 1;fine 0 7 quick " + row[0]).run("act(0) = 0 | mark(0, 0, 0, 3, 0, 0) = 0 | take(0, 0, 0) = 0");
            s.due("pay(0, 0, " + row[1] + ")", row[2]);
            s.due("fine(0, 0, " + row[1] + ", 1)", 0);
        }
        s.run("""
            # promises 24, 25: nothing and 1, of which a half, cut, is 0; the greatest SUM
            new
            child(9, false, -1, 0, 0) = 0 | school() = 0 | comes(0, 0, 0) = 1
            text code d away;step 0 1 in 1;step 1 1 in 1;step 2 1 in 1;step 3 1 in 1
            act(0) = 0
            text fine 0 1 quick 9;fine 1 0-1 quick 9;fine 2 10000*10000*10 quick 9;fine 3 5 quick 9;fine 3 10000*10000*10+1 quick 9
            act(0) = 1
            mark(0, 0, 0, 3, 0, 0) = 0 | mark(0, 0, 2, 3, 0, 0) = 1 | mark(0, 0, 4, 3, 0, 0) = 2 | mark(0, 0, 6, 3, 0, 0) = 3
            take(0, 0, 0) = 0 | take(0, 1, 1) = 0 | take(0, 2, 2) = 0 | take(0, 3, 3) = 0
            fine(0, 0, 3, 0) = 1 | pay(0, 0, 3) = 0 | pay(0, 0, 3) = -4 | fine(0, 0, 3, 1) = 0 | fine(0, 1, 3, 0) = 0 | pay(0, 1, 99) = 0 | pay(0, 1, 99) = -4
            fine(0, 2, 3, 0) = 1000000000 | fine(0, 2, 3, 1) = 1000000000 | pay(0, 2, 3) = 500000000 | appeal(0, 0, 399) = 0 | fine(0, 2, 399, 2) = 500000000 | fine(0, 3, 3, 0) = 5
            """);
    }

    private static void latest84(Script s) {
        s.run(BASE).run("""
            # terms II: away, possible on DAYS of the latest 84 ahead of that DAY
            text off if away=1;off if possible=2
            act(0) = 1
            mark(0, 0, 0, 3, 0, 0) = 0 | off(0, 0, 0) = 0 | off(0, 1, 0) = 1 | off(0, 84, 0) = 1 | off(0, 85, 0) = 0 | off(0, 399, 0) = 0
            mark(0, 0, 631, 3, 0, 0) = 1 | off(0, 315, 0) = 0 | off(0, 316, 0) = 1 | off(0, 399, 0) = 1 | mark(0, 0, 625, 0, 0, 0) = 2 | off(0, 312, 0) = 0
            mark(0, 1, 624, 0, 0, 0) = 3 | mark(0, 1, 630, 0, 0, 0) = 4 | off(1, 315, 0) = 0 | off(1, 316, 0) = 1 | off(1, 396, 0) = 1 | off(1, 397, 0) = 0 | off(1, 399, 0) = 0
            mark(0, 1, 799, 0, 0, 0) = 5 | off(1, 399, 0) = 0
            # terms II: by what is known
            mark(0, 1, 632, 0, 0, 399) = 6 | off(1, 399, 398) = 0 | off(1, 399, 399) = 1
            """);
    }

    private static void lists(Script s) {
        s.run(BASE).run("""
            # promise 28: the first HALF and the last one; the HALVES of that DAY are not behind it
            mark(0, 0, 0, 0, 0, 0) = 0 | mark(0, 0, 799, 1, 0, 0) = 1 | seen(0, 0, 0) = 0 | seen(0, 398, 0) = 0 | seen(0, 399, 0) = 799
            mark(0, 0, 1, 1, 0, 0) = 2 | seen(0, 0, 0) = 1 | mark(0, 0, 2, 0, 0, 0) = 3 | seen(0, 0, 0) = 1 | seen(0, 1, 0) = 2 | mark(0, 0, 798, 2, 0, 0) = 4 | seen(0, 399, 0) = 799
            # promise 34: the first HALF alone, the last one alone
            mark(1, 0, 0, 0, 9, 0) = 5 | mark(1, 0, 799, 0, 9, 0) = 6 | cannot(0, 0, 0, -1) = 2 | cannot(799, 799, 0, -1) = 2 | cannot(1, 798, 0, -1) = 0 | cannot(0, 799, 0, -1) = 4
            cannot(0, 799, 0, 0) = 0 | cannot(0, 799, 0, 1) = 1 | cannot(0, 799, 0, 2) = 5 | cannot(0, 799, 0, 3) = 6 | cannot(0, 799, 0, 4) = -1 | cannot(799, 799, 0, 0) = 1 | cannot(799, 799, 0, 1) = 6
            # promise 34: without MINUTES, of the first and the last HALF
            failed(2, 798) = 1 | failed(2, 2) = 2 | cannot(2, 2, 0, -1) = 1 | cannot(798, 798, 0, -1) = 0 | mark(0, 0, 798, 0, 1, 0) = 7 | cannot(798, 798, 0, -1) = 0 | mark(0, 0, 798, 0, 0, 399) = 8
            cannot(798, 798, 398, -1) = 0 | cannot(798, 798, 399, -1) = 1 | cannot(798, 798, 399, 0) = 8 | mark(0, 0, 2, 0, 300, 0) = 9 | cannot(2, 2, 0, -1) = 0
            """);
    }

    private static void weeks(Script s) {
        s.run(BASE).run("""
            # promise 37: a WEEK is a DAY's seventh; the last one has DAY 399 alone
            mark(0, 0, 9, 3, 0, 0) = 0 | mark(0, 0, 14, 3, 0, 0) = 1 | mark(0, 0, 546, 3, 0, 0) = 2 | mark(0, 0, 793, 3, 0, 0) = 3 | mark(1, 0, 784, 0, 0, 0) = 4 | mark(1, 0, 798, 0, 0, 0) = 5
            dips(0, 0, 1, 1) = 1 | dips(1, 0, 1, 1) = 1 | dips(2, 0, 1, 1) = 0 | dips(38, 0, 1, 1) = 0 | dips(39, 0, 1, 1) = 1 | dips(40, 0, 1, 1) = 0 | dips(55, 0, 1, 1) = 0 | dips(56, 0, 1, 1) = 2 | dips(57, 0, 1, 1) = 1
            mark(0, 0, 799, 3, 0, 399) = 6 | dips(57, 398, 1, 1) = 1 | dips(57, 399, 1, 1) = 2
            # promise 37: SCHOOLS as bits, the last one too
            school() = 2 | school() = 3 | school() = 4 | comes(1, 4, 0) = 4 | comes(1, 1, 0) = 5
            mark(4, 1, 28, 3, 0, 0) = 7 | mark(0, 0, 28, 0, 0, 0) = 8 | mark(0, 0, 29, 0, 0, 0) = 9 | dips(2, 0, 1, 0) = 0 | mark(0, 0, 30, 0, 0, 0) = 10 | dips(2, 0, 1, 0) = 16 | dips(2, 0, 1, 1) = 2
            mark(1, 1, 28, 3, 0, 0) = 11 | dips(2, 0, 1, 1) = 3 | dips(2, 0, 1, 0) = 0
            """);
        s.run("# promise 37: above, not as much as: T 14 and two SCHOOLS ask 392 of N - 1; the greatest T\nnew");
        for (int child = 0; child < 40; child++) {
            s.due("child(9, false, -1, 0, 0)", child);
        }
        s.run("school() = 0 | school() = 1");
        for (int child = 0; child < 40; child++) {
            s.due("comes(" + child + ", " + child / 20 + ", 0)", child + 1);
        }
        s.run("text code a here;code b away").run("act(0) = 0");
        for (int i = 0; i < 393; i++) {
            int place = i < 193 ? i : i + 7;
            s.due("mark(" + place / 200 + ", " + place / 10 + ", " + place % 10 + ", " + (place < 200 ? 1 : 0) + ", 0, 0)", i);
        }
        s.run("""
            dips(0, 0, 14, 1) = 2 | dips(0, 0, 14, 0) = 0 | dips(0, 0, 13, 0) = 1 | mark(0, 19, 3, 1, 0, 0) = 393 | dips(0, 0, 14, 0) = 1 | dips(0, 0, 15, 0) = 0 | dips(0, 0, 20, 0) = 0
            """);
    }

    private static void keeps(Script s) {
        s.run(BASE).run("""
            # promises 41, 43: the first DAY and the last one, both HALVES of each
            mark(0, 0, 0, 1, 0, 0) = 0 | mark(0, 0, 1, 2, 0, 399) = 1 | mark(0, 0, 798, 3, 0, 0) = 2 | mark(0, 0, 799, 4, 0, 0) = 3 | mark(0, 0, 2, 5, 0, 0) = 4 | mark(0, 0, 793, 6, 0, 0) = 5
            found(0) = -3 | found(399) = -3 | seal(0) = 2 | found(399) = -3 | seal(399) = 2 | found(0) = -1 | found(399) = -1 | found(1) = -3 | found(396) = -3 | seal(397) = 0 | found(397) = -1
            alter(4, 1) = 4 | alter(5, 1) = 7 | found(0) = -1 | found(399) = -1 | alter(3, 1) = 5 | found(399) = 3 | found(0) = -1 | alter(1, 1) = 3 | found(0) = 1 | alter(1, 1) = 2 | alter(0, 1) = 0 | found(0) = 0
            seal(0) = 2 | found(0) = -1 | found(399) = 3 | alter(2, 1) = 2 | found(399) = -2 | seal(399) = 2 | found(399) = -1
            """);
    }
}
