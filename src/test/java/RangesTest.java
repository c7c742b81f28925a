/**
 * Every number of every call at its least and its greatest, and at the next one beyond each. The script looks at
 * status() behind each refusal, and whether the object answers as one to which the refused call was not told.
 */
public final class RangesTest {
    /** Four children, four schools, three acts, seven marks; the tape has three bytes, the latest fault is at 6. */
    private static final String COUNTY = """
        new
        child(10, true, 2, 0, 0) = 0 | child(7, false, -1, 3, 4) = 1 | child(16, false, 7, 99, 99) = 2 | child(5, true, 0, 50, 0) = 3
        school() = 0 | school() = 1 | school() = 2 | school() = 3
        shut(0, 3) = 0
        comes(0, 0, 0) = 1 | comes(1, 0, 0) = 2 | comes(2, 0, 0) = 3 | comes(0, 1, 0) = 4 | comes(1, 1, 20) = 5 | goes(1, 0, 30, 1) = 0
        comes(2, 2, 5) = 6 | goes(2, 2, 9, 3) = 0
        failed(2, 4) = 1 | failed(7, 9) = 2
        has(0, 0, 2, 8) = 1 | has(1, 1, 7, 9) = 1
        text code a here;code b late;code c allowed;code d away;code e none;shut d 2 if carer
        act(0) = 0
        text step 0 1 in 5;step 1 1 in 5;fine 0 61 quick 3;fine 1 20 quick 3;off if away>1 or part
        act(0) = 1
        text strike 0 clause 2
        act(9) = 2
        mark(0, 0, 0, 3, 0, 0) = 0 | mark(0, 0, 2, 0, 5, 0) = 1 | mark(0, 0, 4, 3, 0, 1) = 2 | mark(1, 0, 4, 0, 0, 0) = 3
        mark(0, 1, 0, 1, 9, 0) = 4 | mark(0, 0, 14, 3, 300, 0) = 5 | mark(0, 0, 4, 0, 0, 12) = 6
        appeal(2, 0, 20) = 0
        take(0, 0, 0) = 0 | pay(0, 0, 2) = 30 | take(0, 1, 2) = 0
        record(12345678) = 1 | record(87654321) = 2 | missing(0, 12345600) = 1 | missing(1, 87654321) = 2
        visit(0, 5, 10) = 1 | visit(1, 9, 20) = 2 | draw(0, 1, 5) = 1 | draw(1, 0, -5) = 2
        seal(0) = 2 | seal(2) = 3 | alter(1, 3) = 129 | join(2) = 14
        image(0) = 0
        text off if
        act(0) = -6
        text off
        """;
    /** Four children of one school, each away on the first day, and on the last one; the first three steps are told. */
    private static final String AWAY = """
        new
        child(10, true, 2, 0, 0) = 0 | child(7, false, -1, 3, 4) = 1 | child(16, false, 7, 99, 99) = 2 | child(5, true, 0, 50, 0) = 3
        school() = 0 | comes(0, 0, 0) = 1 | comes(1, 0, 0) = 2 | comes(2, 0, 0) = 3 | comes(3, 0, 0) = 4
        text code a away;step 0 1 in 1;step 1 1 in 1;step 2 1 in 400;step 3 1 in 400;fine 0 9 quick 1;fine 3 8 quick 1
        act(0) = 0
        mark(0, 0, 0, 0, 0, 0) = 0 | mark(0, 1, 0, 0, 0, 0) = 1 | mark(0, 2, 0, 0, 0, 0) = 2 | mark(0, 3, 0, 0, 0, 0) = 3
        mark(0, 0, 799, 0, 0, 0) = 4 | mark(0, 1, 2, 0, 0, 0) = 5 | mark(0, 1, 4, 0, 0, 0) = 6 | mark(0, 1, 6, 0, 0, 0) = 7
        """;
    private static final String TAKEN = AWAY + """
        take(0, 0, 0) = 0 | take(1, 0, 0) = 0 | take(1, 1, 1) = 0 | take(1, 2, 2) = 0 | take(1, 3, 3) = 0 | take(2, 0, 0) = 0 | take(3, 0, 0) = 0
        """;

    private static Script s;
    private static String base;

    public static void main(String[] args) {
        s = new Script("RangesTest");
        people();
        rolls();
        busesAndSpans();
        marks();
        asksOfMarks();
        acts();
        rates();
        steps();
        fines();
        dayLists();
        joins();
        visitsAndDraws();
        keeps();
        s.close();
    }

    private static void of(String about, String itsBase) {
        s.run("# " + about);
        base = itsBase;
    }

    /** The call's ? is put at its least and its greatest number, then beyond them. */
    private static void range(String call, int least, int atLeast, int greatest, int atGreatest, int refusal) {
        s.run(base).due(call.replace("?", "" + least), atLeast);
        s.run(base).due(call.replace("?", "" + greatest), atGreatest);
        s.run(base);
        for (int beyond : new int[] {least - 1, greatest + 1, Integer.MIN_VALUE, Integer.MAX_VALUE}) {
            s.due(call.replace("?", "" + beyond), refusal);
        }
        s.due(call.replace("?", "" + least), atLeast);
    }

    private static void people() {
        of("promise 2: born 3 .. 18, a ROUTE 0 .. 7 or none, a PLACE 0 .. 99 each", COUNTY);
        range("child(?, true, 2, 0, 0)", 3, 4, 18, 4, -1);
        range("child(9, true, ?, 0, 0)", -1, 4, 7, 4, -1);
        range("child(9, true, 2, ?, 0)", 0, 4, 99, 4, -1);
        range("child(9, true, 2, 0, ?)", 0, 4, 99, 4, -1);
        of("promise 4: SCHOOLS, DAYS 0 .. 399", COUNTY);
        range("shut(?, 1)", 0, 0, 3, 0, -2);
        range("shut(1, ?)", 0, 0, 399, 0, -1);
    }

    private static void rolls() {
        of("promise 5: CHILDREN, SCHOOLS, DAYS", COUNTY);
        range("comes(?, 3, 50)", 0, 7, 3, 7, -2);
        range("comes(3, ?, 50)", 0, 7, 3, 7, -2);
        range("comes(3, 3, ?)", 0, 7, 399, 7, -1);
        of("promise 6: CHILDREN, SCHOOLS, DAYS, whither a SCHOOL or NONE", COUNTY + "comes(3, 0, 0) = 7 | comes(0, 3, 0) = 8");
        range("goes(?, 0, 60, -1)", 0, 0, 3, 0, -2);
        range("goes(0, ?, 60, -1)", 0, 0, 3, 0, -2);
        range("goes(0, 0, ?, -1)", 0, 0, 399, 0, -1);
        range("goes(0, 0, 60, ?)", -1, 0, 3, 0, -1);
        of("promise 7: CHILDREN, SCHOOLS, DAYS", COUNTY);
        range("isOn(?, 0, 0)", 0, 1, 3, 0, -1);
        range("isOn(0, ?, 0)", 0, 1, 3, 0, -1);
        range("isOn(0, 0, ?)", 0, 1, 399, 1, -1);
    }

    private static void busesAndSpans() {
        of("promise 8: a ROUTE 0 .. 7, HALVES 0 .. 799", COUNTY);
        range("failed(?, 100)", 0, 3, 7, 3, -1);
        range("failed(0, ?)", 0, 3, 799, 3, -1);
        of("promise 9: CHILDREN, what 0, 1, DAYS", COUNTY);
        range("has(?, 0, 5, 6)", 0, 2, 3, 2, -2);
        range("has(0, ?, 5, 6)", 0, 2, 1, 2, -1);
        range("has(0, 0, ?, 399)", 0, 2, 399, 2, -1);
        range("has(0, 1, 0, ?)", 0, 2, 399, 2, -1);
        range("has(0, 1, ?, 7)", 0, 2, 7, 2, -1);
        range("has(0, 1, 7, ?)", 7, 2, 399, 2, -1);
    }

    private static void marks() {
        of("promise 10: SCHOOLS, CHILDREN, HALVES, LETTERS 0 .. 25, MINUTES 0 .. 300, DAYS",
                COUNTY + "comes(3, 0, 0) = 7 | comes(0, 3, 0) = 8");
        range("mark(?, 0, 2, 0, 0, 0)", 0, 7, 3, 7, -2);
        range("mark(0, ?, 2, 0, 0, 0)", 0, 7, 3, 7, -2);
        range("mark(0, 0, ?, 0, 0, 0)", 0, 7, 799, 7, -1);
        range("mark(0, 0, 2, ?, 0, 0)", 0, 7, 25, 7, -1);
        range("mark(0, 0, 2, 0, ?, 0)", 0, 7, 300, 7, -1);
        range("mark(0, 0, 2, 0, 0, ?)", 0, 7, 399, 7, -1);
        of("promise 11: MARKS, LETTERS, DAYS", COUNTY);
        range("appeal(?, 0, 0)", 0, 0, 6, 0, -2);
        range("appeal(0, ?, 0)", 0, 0, 25, 0, -1);
        range("appeal(0, 0, ?)", 0, 0, 399, 0, -1);
    }

    private static void asksOfMarks() {
        String more = COUNTY + "comes(3, 0, 0) = 7 | comes(0, 3, 0) = 8 | mark(3, 0, 4, 4, 0, 0) = 7 | mark(0, 3, 0, 25, 0, 0) = 8 | mark(0, 0, 799, 1, 0, 0) = 9";
        of("promise 12: SCHOOLS, CHILDREN, HALVES, DAYS, what 0 .. 4", more);
        range("tells(?, 0, 4, 399, 0)", 0, 6, 3, 7, -1);
        range("tells(0, ?, 0, 399, 0)", 0, 0, 3, 8, -1);
        range("tells(0, 0, ?, 399, 0)", 0, 0, 799, 9, -1);
        range("tells(0, 0, 0, ?, 0)", 0, 0, 399, 0, -1);
        range("tells(0, 0, 0, 0, ?)", 0, 0, 4, 3, -1);
        of("promise 13: a ROLE 0 .. 3, SCHOOLS, CHILDREN, HALVES, DAYS", more);
        range("sees(?, 0, 0, 0, 0)", 0, 3, 3, 3, -1);
        range("sees(2, ?, 0, 4, 399)", 0, 0, 3, 4, -1);
        range("sees(2, 0, ?, 0, 399)", 0, -3, 3, 25, -1);
        range("sees(2, 0, 0, ?, 399)", 0, -3, 799, 1, -1);
        range("sees(2, 0, 0, 2, ?)", 0, 25, 399, 25, -1);
    }

    private static void acts() {
        of("promise 15: as many as it has, from 0 on", COUNTY);
        range("end(?)", 0, 0, 3, 3, -1);
        of("promise 16: DAYS", COUNTY);
        range("act(?)", 0, 3, 399, 3, -1);
        of("promise 18: ACTS, their CLAUSES, DAYS", COUNTY);
        range("force(?, 0, 9)", 0, 1, 2, 1, -1);
        range("force(0, ?, 9)", 0, 1, 5, 1, -1);
        range("force(2, ?, 9)", 0, 1, 0, 1, -1);
        range("force(2, 0, ?)", 0, 0, 399, 1, -1);
    }

    private static void rates() {
        of("promise 19: CHILDREN, HALVES from .. to, DAYS, what 0 .. 3", COUNTY + "comes(3, 0, 0) = 7 | mark(0, 3, 799, 3, 0, 0) = 7");
        range("rate(?, 0, 799, 0, 0)", 0, 3, 3, 1, -1);
        range("rate(0, ?, 799, 0, 0)", 0, 3, 799, 0, -1);
        range("rate(0, 0, ?, 0, 0)", 0, 1, 799, 3, -1);
        range("rate(0, ?, 4, 0, 0)", 0, 2, 4, 1, -1);
        range("rate(0, 4, ?, 0, 0)", 4, 1, 799, 2, -1);
        range("rate(0, 0, 799, ?, 1)", 0, 2, 399, 2, -1);
        range("rate(0, 0, 799, 0, ?)", 0, 3, 3, 3, -1);
        of("promise 20: SCHOOLS, HALVES from .. to, DAYS, what 0 .. 3", COUNTY + "comes(0, 3, 0) = 7 | mark(3, 0, 799, 3, 0, 0) = 7");
        range("dip(?, 0, 799, 0, 0)", 0, 3, 3, 1, -1);
        range("dip(0, ?, 799, 0, 0)", 0, 3, 799, 0, -1);
        range("dip(3, 0, ?, 0, 0)", 0, 0, 799, 1, -1);
        range("dip(0, ?, 4, 12, 0)", 0, 3, 4, 1, -1);
        range("dip(0, 4, ?, 12, 0)", 4, 1, 799, 2, -1);
        range("dip(0, 0, 799, ?, 0)", 0, 3, 399, 4, -1);
        range("dip(0, 0, 799, 0, ?)", 0, 3, 3, 3, -1);
    }

    private static void steps() {
        of("promise 21: CHILDREN, a STEP 0 .. 3, DAYS", AWAY);
        range("due(?, 0, 0, 0)", 0, 0, 3, 0, -1);
        range("due(0, ?, 0, 0)", 0, 0, 3, 0, -1);
        range("due(0, 0, ?, 0)", 0, 0, 399, 399, -1);
        range("due(0, 0, 0, ?)", 0, 0, 399, 0, -1);
        of("promise 22: CHILDREN, a STEP 0 .. 3, DAYS", AWAY);
        range("take(?, 0, 0)", 0, 0, 3, 0, -2);
        range("take(0, 0, ?)", 0, 0, 399, 0, -1);
        of("promise 22: the last STEP", AWAY + "take(1, 0, 0) = 0 | take(1, 1, 1) = 0 | take(1, 2, 2) = 0");
        range("take(1, ?, 3)", 0, -4, 3, 0, -1);
        of("promise 23: CHILDREN, a STEP 0 .. 3, DAYS", TAKEN);
        range("stands(?, 0, 0)", 0, 1, 3, 1, -1);
        range("stands(1, ?, 399)", 0, 1, 3, 1, -1);
        range("stands(1, 3, ?)", 0, 0, 399, 1, -1);
    }

    private static void fines() {
        of("promise 24: CHILDREN, a STEP 0 .. 3, DAYS", TAKEN);
        range("pay(?, 0, 0)", 0, 4, 3, 4, -2);
        range("pay(1, ?, 3)", 0, 9, 3, 4, -1);
        range("pay(1, 0, ?)", 0, 4, 399, 9, -1);
        of("promise 25: CHILDREN, a STEP 0 .. 3, DAYS, what 0 .. 2", TAKEN);
        range("fine(?, 0, 0, 0)", 0, 9, 3, 9, -1);
        range("fine(1, ?, 3, 0)", 0, 9, 3, 8, -1);
        range("fine(1, 0, ?, 0)", 0, 9, 399, 9, -1);
        range("fine(1, 0, 0, ?)", 0, 9, 2, 0, -1);
    }

    private static void dayLists() {
        of("promise 26: CHILDREN, DAYS", COUNTY);
        range("off(?, 2, 0)", 0, 1, 3, 0, -1);
        range("off(0, ?, 399)", 0, 0, 399, 0, -1);
        range("off(0, 2, ?)", 0, 1, 399, 1, -1);
        of("promise 27: DAYS, what 0 .. 2, NONE and as many as there are", COUNTY);
        range("rolls(?, 0, -1)", 0, 1, 399, 1, -1);
        range("rolls(9, ?, -1)", 0, 1, 2, 1, -1);
        range("rolls(399, 0, ?)", -1, 1, 0, 3, -1);
        range("rolls(5, 1, ?)", -1, 2, 1, 2, -1);
        range("rolls(9, 2, ?)", -1, 1, 0, 2, -1);
        of("promise 28: CHILDREN, DAYS", COUNTY + "comes(3, 0, 0) = 7 | mark(0, 3, 799, 0, 0, 0) = 7");
        range("seen(?, 399, 399)", 0, 4, 3, 799, -1);
        range("seen(3, ?, 399)", 0, -1, 399, 799, -1);
        range("seen(0, 1, ?)", 0, -1, 399, -1, -1);
        range("seen(3, 399, ?)", 0, 799, 399, 799, -1);
        of("promise 34: HALVES from .. to, DAYS, NONE and as many as there are", COUNTY);
        range("cannot(?, 799, 12, -1)", 0, 2, 799, 0, -1);
        range("cannot(0, ?, 12, -1)", 0, 0, 799, 2, -1);
        range("cannot(?, 4, 12, -1)", 0, 2, 4, 2, -1);
        range("cannot(4, ?, 12, -1)", 4, 2, 799, 2, -1);
        range("cannot(0, 799, ?, -1)", 0, 1, 399, 2, -1);
        range("cannot(0, 799, 399, ?)", -1, 2, 1, 6, -1);
    }

    private static void joins() {
        of("promise 29: 0 .. 99,999,999", COUNTY);
        range("record(?)", 0, 3, 99999999, 3, -1);
        of("promise 30: CHILDREN, 0 .. 99,999,999", COUNTY);
        range("missing(3, ?)", 0, 3, 99999999, 3, -1);
        base = "new\nchild(3, false, -1, 0, 0) = 0 | child(3, false, -1, 0, 0) = 1";
        range("missing(?, 0)", 0, 1, 1, 1, -2);
        of("promises 31, 33: LEAST 0 .. 8", COUNTY);
        range("join(?)", 0, 14, 8, 8, -1);
        range("judge(0, ?)", 0, 0, 8, 0, -1);
        range("judge(14, ?)", 0, 8, 8, 8, -1);
        range("judge(1, ?)", 0, 6, 6, 6, -1);
        of("promise 32: NONE, and one of each MISSING", COUNTY);
        range("joined(?)", -1, 1, 1, 1, -1);
        of("promise 33: of each MISSING none or a RECORD", COUNTY);
        range("judge(?, 0)", 0, 0, 15, 14, -1);
    }

    private static void visitsAndDraws() {
        of("promise 35: CHILDREN, MINUTES 1 .. 200, WORTH 1 .. 1000", COUNTY);
        range("visit(?, 1, 1)", 0, 3, 3, 3, -2);
        range("visit(0, ?, 1)", 1, 3, 200, 3, -1);
        range("visit(0, 1, ?)", 1, 3, 1000, 3, -1);
        of("promise 36: an office 0 .. 99 each, 0 .. 2000 minutes, what 0 .. 2", COUNTY);
        range("round(?, 0, 2000, 2)", 0, 28, 99, 220, -1);
        range("round(0, ?, 2000, 2)", 0, 28, 99, 218, -1);
        range("round(0, 0, ?, 0)", 0, 0, 2000, 3, -1);
        range("round(0, 0, 2000, ?)", 0, 3, 2, 28, -1);
        of("promise 37: a WEEK 0 .. 57, DAYS, T 1 .. 20, what 0, 1", COUNTY + "mark(0, 0, 799, 3, 0, 0) = 7");
        range("dips(?, 0, 1, 1)", 0, 2, 57, 1, -1);
        range("dips(0, ?, 1, 1)", 0, 2, 399, 2, -1);
        range("dips(0, 0, ?, 1)", 1, 2, 20, 2, -1);
        range("dips(0, 0, 1, ?)", 0, 0, 1, 2, -1);
        of("promise 38: CHILDREN, 0, 1, -100 .. 100", COUNTY);
        range("draw(3, ?, 0)", 0, 3, 1, 3, -1);
        range("draw(3, 0, ?)", -100, 3, 100, 3, -1);
        base = "new\nchild(3, false, -1, 0, 0) = 0 | child(3, false, -1, 0, 0) = 1";
        range("draw(?, 0, 0)", 0, 1, 1, 1, -2);
        of("promise 39: what 0, 1", COUNTY);
        range("helped(?)", 0, 1, 1, 2, -1);
    }

    private static void keeps() {
        String again = """
            text code d here
            """;
        of("promise 40: DAYS", COUNTY + again);
        s.run(base).run("beside(0, 0) = 2").run(base).run("beside(399, 0) = 0").run(base).run("beside(0, 399) = 2");
        s.run(base).run("beside(-1, 0) = -1 | beside(400, 0) = -1 | beside(-2147483648, 0) = -1 | beside(2147483647, 0) = -1");
        s.run("beside(0, -1) = -1 | beside(0, 400) = -1 | beside(0, -2147483648) = -1 | beside(0, 2147483647) = -1");
        s.run("fault() = 6 | count(9) = 11 | beside(0, 0) = 2 | fault() = -1 | count(9) = 0");
        of("promise 41: DAYS", COUNTY);
        range("seal(?)", 0, 2, 399, 0, -1);
        of("promise 42: MARKS, a mask 1 .. 7", COUNTY);
        range("alter(?, 1)", 0, 2, 6, 1, -2);
        range("alter(0, ?)", 1, 2, 7, 4, -1);
        of("promise 43: DAYS", COUNTY + "seal(399) = 0");
        range("found(?)", 0, -1, 399, -1, -3);
        of("promises 44, 45: IMAGES 0, 1", COUNTY + "image(1) = 0");
        range("image(?)", 0, 0, 1, 0, -1);
        range("back(?)", 0, 0, 1, 0, -1);
        of("promise 46: what 0 .. 9", COUNTY);
        range("count(?)", 0, 4, 9, 3, -1);
    }
}
