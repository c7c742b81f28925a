/** Boundaries within what is reckoned: LIKE and LEAST, BEST, minutes of a round, numbers of MARKS, sums of sealed DAYS, shares of draws. */
public final class NumbersTest {
    public static void main(String[] args) {
        Script s = new Script("NumbersTest");
        likes(s);
        best(s);
        rounds(s);
        dips(s);
        draws(s);
        masks(s);
        places(s);
        oneMore(s);
        terms(s);
        status(s);
        s.close();
    }

    /** The first of the eight figures is the highest. */
    private static void likes(Script s) {
        int[] records = {11111111, 1111111, 111111, 11111, 1111, 111, 11, 1, 0};
        for (int like = 0; like <= 8; like++) {
            s.run("# promises 31, 33: LIKE " + like + ", joined up to that LEAST\nnew\nchild(9, false, -1, 0, 0) = 0 | missing(0, 0) = 1");
            s.due("record(" + records[like] + ")", 1);
            for (int least = 0; least <= 8; least++) {
                boolean joined = least <= like;
                s.due("join(" + least + ")", joined ? like : 0).due("joined(0)", joined ? 0 : -1).due("joined(-1)", 1);
                s.due("judge(1, " + least + ")", joined ? like : -1).due("judge(0, " + least + ")", 0);
            }
        }
        int figure = 1;
        for (int place = 0; place < 8; place++) {
            s.run("# promise 31: each of the eight MARKS is one of them\nnew\nchild(9, false, -1, 0, 0) = 0 | record(0) = 1");
            s.due("missing(0, " + 9 * figure + ")", 1).run("join(7) = 7 | join(8) = 0");
            figure *= 10;
        }
    }

    private static void best(Script s) {
        s.run("""
            # promise 31: of alike ones the most joined, then the first as rows, none behind all; RIVALS are as good
            new
            child(9, false, -1, 0, 0) = 0 | child(9, false, -1, 0, 0) = 1 | child(9, false, -1, 0, 0) = 2
            record(11111111) = 1 | record(33331111) = 2 | missing(0, 11111111) = 1 | missing(1, 11112222) = 2
            join(0) = 8 | joined(-1) = 2 | joined(0) = 0 | joined(1) = 1 | join(1) = 8 | joined(-1) = 1 | joined(0) = 1 | joined(1) = 0
            join(4) = 8 | joined(-1) = 1 | joined(0) = 1 | joined(1) = 0 | join(5) = 8 | joined(-1) = 1 | joined(0) = 0 | joined(1) = -1
            judge(1, 8) = 8 | judge(15, 0) = 8 | judge(15, 1) = -1 | judge(9, 4) = 8 | judge(9, 5) = -1 | judge(8, 0) = -1 | judge(16, 0) = -1 | judge(49, 0) = -1
            # promise 31: the most LIKE goes ahead of the most joined
            new
            child(9, false, -1, 0, 0) = 0 | child(9, false, -1, 0, 0) = 1 | record(11111111) = 1 | record(33331119) = 2 | missing(0, 11111111) = 1 | missing(1, 11112222) = 2
            join(1) = 8 | joined(-1) = 1 | joined(0) = 0 | joined(1) = -1 | join(0) = 8 | joined(-1) = 1 | joined(0) = 0 | joined(1) = 1
            # promise 31: one RECORD, three MISSING alike: the first one gets it
            new
            child(9, false, -1, 0, 0) = 0 | child(9, false, -1, 0, 0) = 1 | child(9, false, -1, 0, 0) = 2 | record(5) = 1 | missing(2, 5) = 1 | missing(1, 5) = 2 | missing(0, 5) = 3
            join(8) = 8 | joined(-1) = 3 | joined(0) = 0 | joined(1) = -1 | joined(2) = -1 | judge(1, 8) = 8 | judge(7, 8) = 8 | judge(49, 8) = 8 | judge(8, 8) = -1 | judge(343, 8) = -1 | judge(2, 8) = -1
            # promise 32: of the latest BEST, whatever is told behind it
            record(6) = 2 | joined(-1) = 3 | joined(1) = -1 | image(0) = 0 | join(7) = 15 | joined(-1) = 6 | joined(0) = 0 | joined(1) = 1 | back(0) = 0 | joined(-1) = 6 | joined(1) = 1 | join(9) = -1 | joined(-1) = 6
            """);
    }

    private static void rounds(Script s) {
        s.run("""
            # promise 36: within n minutes, n is within; the way there, at the door, and back
            new
            child(9, false, -1, 99, 99) = 0 | visit(0, 200, 1000) = 1 | round(0, 0, 596, 0) = 1 | round(0, 0, 596, 1) = 1000 | round(0, 0, 596, 2) = 596 | round(0, 0, 595, 0) = 0 | round(0, 0, 595, 1) = 0 | round(0, 0, 595, 2) = 0
            round(99, 99, 200, 0) = 1 | round(99, 99, 199, 0) = 0 | round(99, 0, 398, 0) = 1 | round(99, 0, 397, 0) = 0 | round(0, 99, 398, 0) = 1 | round(0, 99, 397, 0) = 0
            # promise 36: the greatest WORTH, by 1; alike ones by the fewest minutes; then the lowest bits
            new
            child(9, false, -1, 0, 0) = 0 | child(9, false, -1, 1, 0) = 1 | child(9, false, -1, 0, 1) = 2
            visit(0, 10, 5) = 1 | visit(1, 7, 5) = 2 | visit(2, 7, 5) = 3 | visit(0, 10, 6) = 4
            round(0, 0, 10, 0) = 8 | round(0, 0, 9, 0) = 2 | round(0, 0, 8, 0) = 0 | round(0, 0, 17, 0) = 8 | round(0, 0, 18, 0) = 6 | round(0, 0, 19, 0) = 10 | round(0, 0, 19, 1) = 11 | round(0, 0, 19, 2) = 19
            round(0, 1, 9, 0) = 4 | round(1, 0, 9, 0) = 2 | round(0, 0, 20, 0) = 10 | round(0, 0, 20, 2) = 19
            """);
    }

    private static void dips(Script s) {
        s.run("""
            # promise 37: x N above n X: as much as is no dip; LOOKED at are those with POSSIBLE SESSIONS alone
            new
            child(9, false, -1, 0, 0) = 0 | child(9, false, -1, 0, 0) = 1 | school() = 0 | school() = 1 | school() = 2 | comes(0, 0, 0) = 1 | comes(1, 1, 0) = 2 | comes(1, 2, 0) = 3
            text code a here;code b away
            act(0) = 0
            mark(0, 0, 0, 1, 0, 0) = 0 | dips(0, 0, 1, 0) = 0 | dips(0, 0, 1, 1) = 1 | mark(1, 1, 0, 1, 0, 0) = 1 | dips(0, 0, 1, 0) = 0 | dips(0, 0, 1, 1) = 2
            mark(2, 1, 0, 25, 0, 0) = 2 | dips(0, 0, 1, 1) = 2 | mark(2, 1, 1, 0, 0, 0) = 3 | dips(0, 0, 1, 1) = 3 | dips(0, 0, 1, 0) = 0
            # promise 37: 2 of 2 away, none of 2: N - 1 is 3, above T squared times 2 for T 1 alone
            new
            child(9, false, -1, 0, 0) = 0 | child(9, false, -1, 0, 0) = 1 | school() = 0 | school() = 1 | comes(0, 0, 0) = 1 | comes(1, 1, 0) = 2
            text code a here;code b away
            act(0) = 0
            mark(0, 0, 0, 0, 0, 0) = 0 | mark(0, 0, 1, 0, 0, 0) = 1 | mark(1, 1, 0, 1, 0, 0) = 2 | dips(0, 0, 1, 0) = 0 | mark(1, 1, 1, 1, 0, 0) = 3 | dips(0, 0, 1, 0) = 2 | dips(0, 0, 2, 0) = 0
            """);
    }

    private static void draws(Script s) {
        s.run("""
            # promise 39: at least what it was: 1 below it is not
            new
            child(9, false, -1, 0, 0) = 0 | child(9, false, -1, 0, 0) = 1 | child(9, false, -1, 0, 0) = 2
            draw(0, 1, 0) = 1 | draw(1, 0, -1) = 2 | draw(2, 0, 1) = 3 | helped(0) = 2 | helped(1) = 3
            new
            child(9, false, -1, 0, 0) = 0 | child(9, false, -1, 0, 0) = 1 | child(9, false, -1, 0, 0) = 2
            draw(0, 1, -100) = 1 | helped(0) = 1 | helped(1) = 1 | draw(1, 1, 100) = 2 | helped(0) = 1 | helped(1) = 1 | draw(2, 0, 100) = 3 | helped(0) = 3 | helped(1) = 3
            # promise 39: two of four, by the sum of both
            new
            child(9, false, -1, 0, 0) = 0 | child(9, false, -1, 0, 0) = 1 | child(9, false, -1, 0, 0) = 2 | child(9, false, -1, 0, 0) = 3
            draw(0, 0, 10) = 1 | draw(1, 1, 15) = 2 | draw(2, 1, 4) = 3 | helped(0) = 2 | helped(1) = 3 | draw(3, 0, 12) = 4 | helped(0) = 4 | helped(1) = 6
            new
            child(9, false, -1, 0, 0) = 0 | child(9, false, -1, 0, 0) = 1 | draw(0, 0, 100) = 1 | draw(1, 0, -100) = 2 | helped(0) = 1 | helped(1) = 1
            """);
    }

    private static void masks(Script s) {
        s.run("# promise 42: masks 1 .. 7 of the least number, of one at the LETTERS' end and of the greatest");
        int[][] marks = {{0, 0}, {25, 0}, {0, 1}, {25, 300}, {6, 12}};
        for (int[] mark : marks) {
            int number = 26 * mark[1] + mark[0];
            s.run("new\nchild(9, false, -1, 0, 0) = 0 | school() = 0 | comes(0, 0, 0) = 1");
            s.due("mark(0, 0, 0, " + mark[0] + ", " + mark[1] + ", 0)", 0).run("seal(0) = 1");
            for (int mask = 1; mask <= 7; mask++) {
                int turned = number ^ mask;
                s.due("alter(0, " + mask + ")", turned).due("tells(0, 0, 0, 0, 1)", turned % 26).due("tells(0, 0, 0, 0, 2)", turned / 26);
                s.due("found(0)", 0).due("alter(0, " + mask + ")", number).due("tells(0, 0, 0, 0, 1)", mark[0]).due("tells(0, 0, 0, 0, 2)", mark[1]).due("found(0)", -1);
            }
        }
        s.run("""
            # promises 11, 42: what was granted stays, the MARK's own LETTER is turned; its KIND is of the LETTER that counts
            new
            child(9, false, -1, 0, 0) = 0 | school() = 0 | comes(0, 0, 0) = 1
            text code a here;code b away;code d late;code c allowed if minutes=1;shut b 0
            act(0) = 0
            mark(0, 0, 0, 0, 0, 0) = 0 | sees(0, 0, 0, 0, 0) = 0 | alter(0, 1) = 1 | tells(0, 0, 0, 0, 3) = 3 | sees(0, 0, 0, 0, 0) = -3 | appeal(0, 3, 5) = 0 | tells(0, 0, 0, 5, 3) = 1 | seal(0) = 1 | alter(0, 3) = 2
            tells(0, 0, 0, 5, 1) = 3 | tells(0, 0, 0, 4, 1) = 2 | tells(0, 0, 0, 4, 3) = 4 | found(0) = 0 | mark(0, 0, 1, 25, 0, 0) = 1 | alter(1, 5) = 28 | tells(0, 0, 1, 0, 1) = 2 | tells(0, 0, 1, 0, 2) = 1 | tells(0, 0, 1, 0, 3) = 2
            """);
    }

    private static void places(Script s) {
        s.run("""
            # promise 43: places from 1 on; what both sums are off by tells one, or none
            new
            child(9, false, -1, 0, 0) = 0 | school() = 0 | comes(0, 0, 0) = 1
            mark(0, 0, 0, 0, 0, 0) = 0 | mark(0, 0, 2, 9, 9, 0) = 1 | mark(0, 0, 1, 2, 1, 0) = 2 | mark(0, 0, 0, 1, 0, 0) = 3 | seal(0) = 3 | found(0) = -1
            alter(0, 1) = 1 | found(0) = 0 | alter(0, 1) = 0 | alter(2, 1) = 29 | found(0) = 2 | alter(2, 1) = 28 | alter(3, 1) = 0 | found(0) = 3 | alter(3, 1) = 1 | alter(1, 1) = 242 | found(0) = -1
            # promise 43: place 0, and the one behind the last, are none
            alter(0, 3) = 3 | found(0) = 0 | alter(3, 1) = 0 | found(0) = -2 | alter(0, 3) = 0 | alter(3, 1) = 1 | found(0) = -1
            seal(0) = 3 | alter(0, 1) = 1 | alter(3, 2) = 3 | found(0) = -2 | seal(0) = 3 | alter(0, 1) = 0 | alter(3, 4) = 7 | found(0) = -2
            # promise 43: the first sum as it was, the second one not
            seal(0) = 3 | alter(0, 1) = 1 | alter(3, 1) = 6 | found(0) = -2 | alter(0, 1) = 0 | found(0) = 3 | alter(3, 1) = 7 | found(0) = -1
            """);
    }

    private static void oneMore(Script s) {
        s.run("""
            # promise 43: more MARKS than then; both sums as they were are as they were
            new
            child(9, false, -1, 0, 0) = 0 | school() = 0 | comes(0, 0, 0) = 1 | seal(0) = 0 | found(0) = -1 | mark(0, 0, 2, 1, 0, 0) = 0 | found(0) = -1
            mark(0, 0, 0, 0, 0, 0) = 1 | found(0) = -1 | alter(1, 1) = 1 | found(0) = -2 | alter(1, 1) = 0 | found(0) = -1 | mark(0, 0, 1, 1, 0, 399) = 2 | found(0) = -2 | seal(0) = 2 | found(0) = -1
            image(0) = 0 | mark(0, 0, 1, 5, 5, 0) = 3 | found(0) = -2 | back(0) = 0 | found(0) = -1 | alter(2, 2) = 3 | found(0) = 2 | back(0) = 0 | found(0) = -1
            """);
    }

    private static void terms(Script s) {
        s.run("# promise 19: AWAY by POSSIBLE in lowest terms\nnew\nchild(9, false, -1, 0, 0) = 0 | school() = 0 | comes(0, 0, 0) = 1");
        s.run("text code a here;code b away").run("act(0) = 0");
        for (int i = 0; i < 12; i++) {
            int half = i / 10 * 14 + i % 10;
            s.due("mark(0, 0, " + half + ", " + (i % 3 == 0 ? 1 : 0) + ", 0, 0)", i);
            int away = i / 3 + 1;
            int possible = i + 1;
            int divisor = java.math.BigInteger.valueOf(away).gcd(java.math.BigInteger.valueOf(possible)).intValue();
            s.due("rate(0, 0, 799, 0, 2)", away / divisor).due("rate(0, 0, 799, 0, 3)", possible / divisor);
            s.due("dip(0, 0, 799, 0, 2)", away / divisor).due("dip(0, 0, 799, 0, 3)", possible / divisor);
        }
        s.run("rate(0, 1, 2, 0, 2) = 0 | rate(0, 1, 2, 0, 3) = 1 | rate(0, 0, 0, 0, 2) = 1 | rate(0, 0, 0, 0, 3) = 1 | rate(0, 16, 799, 0, 2) = 0 | rate(0, 16, 799, 0, 3) = 1");
    }

    private static final String[] ACCEPTED = {"child(9, false, -1, 0, 0) = 2", "school() = 2", "shut(0, 9) = 0", "comes(1, 1, 0) = 3", "goes(0, 0, 9, -1) = 0",
        "failed(0, 0) = 1", "has(0, 0, 0, 0) = 1", "mark(0, 0, 0, 3, 0, 0) = 2", "appeal(0, 0, 0) = 0", "act(0) = 1", "take(0, 0, 1) = 0", "pay(1, 0, 1) = 0",
        "record(0) = 1", "missing(0, 0) = 1", "visit(0, 1, 1) = 1", "draw(0, 0, 0) = 1", "seal(0) = 2", "alter(0, 3) = 0", "image(1) = 0", "back(0) = 0"};
    private static final String[] NOT_NAMED = {"isOn(0, 0, 0) = 1", "isOn(9, 0, 0) = -1", "tells(0, 0, 0, 0, 0) = 0", "tells(9, 0, 0, 0, 0) = -1", "sees(0, 0, 0, 0, 0) = 3",
        "sees(1, 0, 0, 0, 0) = -3", "sees(9, 0, 0, 0, 0) = -1", "feed(0, 0, 0, 0, 0) = 23", "end(0) = 0", "end(9) = -1", "fault() = -1", "force(0, 0, 0) = 1", "force(9, 0, 0) = -1",
        "rate(0, 0, 0, 0, 0) = 1", "rate(9, 0, 0, 0, 0) = -1", "dip(0, 0, 0, 0, 0) = 2", "dip(9, 0, 0, 0, 0) = -1", "due(0, 0, 0, 0) = 0", "due(9, 0, 0, 0) = -1", "stands(0, 0, 0) = 0",
        "stands(9, 0, 0) = -1", "fine(1, 0, 0, 0) = 0", "fine(0, 0, 0, 0) = -1", "off(0, 0, 0) = 0", "off(9, 0, 0) = -1", "rolls(0, 0, -1) = 0", "rolls(0, 0, 0) = -1", "rolls(400, 0, 0) = -1",
        "seen(0, 0, 0) = -1", "join(0) = 0", "join(9) = -1", "joined(-1) = -1", "joined(0) = -1", "judge(0, 0) = 0", "judge(1, 0) = -1", "cannot(0, 0, 0, -1) = 0", "cannot(1, 0, 0, -1) = -1",
        "round(0, 0, 0, 0) = 0", "round(0, 0, -1, 0) = -1", "dips(0, 0, 1, 0) = 0", "dips(58, 0, 1, 0) = -1", "helped(0) = 1", "helped(2) = -1", "beside(0, 0) = 0", "beside(400, 0) = -1",
        "found(0) = -3", "found(400) = -3", "count(0) = 2", "count(10) = -1", "status() = 0"};

    /** Every call that promise 47 names clears it if it is not refused; every other one leaves it, refused or not. */
    private static void status(Script s) {
        String base = """
            # promise 47
            new
            child(9, false, -1, 0, 0) = 0 | child(9, false, -1, 0, 0) = 1 | school() = 0 | school() = 1 | comes(0, 0, 0) = 1 | comes(1, 0, 0) = 2
            text code d away;step 0 1 in 1;shut d 1
            act(0) = 0
            mark(0, 0, 0, 3, 0, 0) = 0 | mark(0, 1, 0, 3, 0, 0) = 1 | take(1, 0, 0) = 0 | image(0) = 0
            text off
            """;
        for (String call : ACCEPTED) {
            s.run(base).run("status() = 0 | seal(400) = -1 | status() = -1").run(call).run("status() = 0 | back(1) = " + (call.startsWith("image(1)") ? "0" : "-2"));
        }
        for (String call : NOT_NAMED) {
            s.run(base).run(call).run("status() = 0").run(base).run("back(1) = -2").run(call.startsWith("status") ? "status() = -2" : call).run("status() = -2 | seal(0) = 2 | status() = 0");
        }
    }
}
