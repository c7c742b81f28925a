/** Promises 41 to 47: sealed days, images, counts, status. */
public final class KeepTest {
    private static final String BASE = """
        new
        child(10, true, 2, 0, 0) = 0 | child(7, false, -1, 3, 4) = 1
        school() = 0 | school() = 1
        comes(0, 0, 0) = 1 | comes(1, 0, 0) = 2
        """;

    public static void main(String[] args) {
        Script s = new Script("KeepTest");
        seals(s);
        images(s);
        counts(s);
        status(s);
        s.close();
    }

    private static void seals(Script s) {
        s.run(BASE).run("""
            # promise 41
            mark(0, 0, 2, 5, 0, 0) = 0 | mark(0, 0, 4, 6, 1, 0) = 1 | mark(0, 1, 3, 7, 2, 399) = 2 | mark(0, 0, 2, 8, 3, 0) = 3
            seal(-1) = -1 | seal(400) = -1 | status() = -1
            found(1) = -3 | found(-1) = -3 | found(400) = -3
            seal(1) = 3 | status() = 0 | seal(2) = 1 | seal(399) = 0
            found(1) = -1 | found(399) = -1
            # promises 42, 43
            alter(0, 0) = -1 | alter(0, 8) = -1 | alter(9, 8) = -1 | status() = -1
            alter(4, 1) = -2 | alter(-1, 1) = -2 | status() = -2
            alter(0, 7) = 2 | status() = 0 | found(1) = 0 | found(2) = -1
            tells(0, 0, 2, 399, 0) = 3 | alter(0, 7) = 5 | found(1) = -1
            alter(2, 4) = 63 | found(1) = 2 | tells(0, 1, 3, 399, 1) = 11 | tells(0, 1, 3, 399, 2) = 2
            alter(2, 4) = 59 | alter(3, 1) = 87 | found(1) = 3
            # promise 43: two that were altered
            alter(0, 2) = 7 | found(1) = -2
            alter(0, 2) = 5 | alter(0, 1) = 4 | found(1) = -2
            seal(1) = 3 | found(1) = -1
            # promise 43: two altered alike look like the one between
            alter(3, 1) = 86 | alter(0, 4) = 0 | alter(0, 1) = 1 | alter(0, 2) = 3 | found(1) = 2
            # promise 43: an appeal is not an altered mark, one more mark is not a mark that was altered
            seal(2) = 1 | appeal(1, 0, 0) = 0 | found(2) = -1 | mark(0, 0, 5, 1, 0, 0) = 4 | found(2) = -2 | seal(2) = 2 | found(2) = -1
            # promise 43: one more mark whose number is 0 leaves both sums as they were
            mark(0, 1, 5, 0, 0, 0) = 5 | found(2) = -1 | alter(1, 1) = 33 | found(2) = -2
            # promise 42: the greatest number
            mark(0, 0, 6, 25, 300, 0) = 6 | seal(3) = 1 | alter(6, 6) = 7831 | tells(0, 0, 6, 0, 1) = 5 | tells(0, 0, 6, 0, 2) = 301
            found(3) = 6 | alter(6, 6) = 7825 | found(3) = -1 | tells(0, 0, 6, 0, 2) = 300
            """);
    }

    private static void images(Script s) {
        s.run(BASE).run("""
            # promises 44, 45
            back(0) = -2 | back(1) = -2 | status() = -2 | back(2) = -1 | back(-1) = -1 | image(2) = -1 | image(-1) = -1 | status() = -1
            text code a here
            act(0) = 0
            image(0) = 0 | status() = 0
            child(9, true, 1, 1, 1) = 2 | school() = 2 | shut(0, 2) = 0 | comes(2, 0, 0) = 3 | goes(0, 0, 7, 1) = 0 | failed(2, 0) = 1
            has(0, 0, 0, 9) = 1 | has(0, 1, 0, 9) = 1 | mark(0, 0, 0, 3, 7, 0) = 0 | appeal(0, 0, 0) = 0
            text code a away;code d away;step 0 1 in 5;fine 0 9 quick 5;off if carer
            act(0) = 1
            take(0, 0, 3) = 0 | pay(0, 0, 4) = 4 | record(12) = 1 | missing(0, 12) = 1 | visit(0, 1, 1) = 1 | draw(0, 1, 5) = 1 | seal(0) = 1
            join(0) = 8
            text off if
            act(0) = -6 | fault() = 6
            image(1) = 0
            text off;off
            back(0) = 0 | status() = 0 | fault() = 6 | count(9) = 7 | joined(0) = 0 | joined(-1) = 1
            count(0) = 2 | count(1) = 2 | count(2) = 2 | count(3) = 0 | count(4) = 1 | count(5) = 0 | count(6) = 0 | count(7) = 0 | count(8) = 0
            isOn(0, 0, 7) = 1 | shut(0, 2) = 0 | failed(2, 0) = 1 | has(0, 0, 0, 9) = 1 | has(0, 1, 0, 9) = 1 | off(0, 0, 0) = 0 | found(0) = -3
            stands(0, 0, 399) = 0 | fine(0, 0, 399, 0) = -1 | force(1, 0, 0) = -1
            # promise 45: what is told behind it does not reach the images
            mark(0, 1, 2, 0, 0, 0) = 0 | appeal(0, 1, 0) = 0 | tells(0, 1, 2, 0, 1) = 1 | act(0) = 1 | force(1, 1, 0) = 1 | force(1, 4, 0) = -1
            back(1) = 0
            count(0) = 3 | count(1) = 3 | count(2) = 3 | count(3) = 1 | count(4) = 2 | count(5) = 1 | count(6) = 1 | count(7) = 1 | count(8) = 1
            force(1, 4, 0) = 1 | tells(0, 0, 0, 0, 1) = 0 | tells(0, 1, 2, 0, 1) = -1 | tells(0, 0, 0, 0, 3) = 3 | found(0) = -1
            isOn(0, 0, 7) = 0 | shut(0, 2) = -4 | failed(2, 0) = -4 | stands(0, 0, 399) = 1 | fine(0, 0, 4, 1) = 0 | fine(0, 0, 3, 1) = 9 | off(0, 0, 0) = 1
            take(0, 0, 3) = -4 | pay(0, 0, 4) = -4 | missing(0, 12) = -4 | draw(0, 1, 5) = -4 | round(0, 0, 1, 1) = 1 | judge(1, 8) = 8 | rolls(5, 0, -1) = 0
            # promises 44, 45: images stay, and may be kept anew
            back(0) = 0 | count(3) = 0 | back(0) = 0 | child(9, true, 1, 1, 1) = 2 | image(0) = 0 | back(1) = 0 | back(0) = 0 | count(0) = 3 | count(1) = 2
            """);
    }

    private static void counts(Script s) {
        s.run(BASE).run("""
            # promise 46
            record(1) = 1 | missing(0, 1) = 1 | missing(1, 1) = 2 | visit(0, 1, 1) = 1 | visit(0, 1, 1) = 2 | visit(0, 1, 1) = 3
            draw(0, 1, 1) = 1 | draw(1, 1, 1) = 2 | mark(0, 0, 0, 0, 0, 0) = 0 | mark(0, 0, 0, 0, 0, 0) = 1 | mark(0, 0, 0, 0, 0, 0) = 2
            text off
            act(0) = 0
            text off
            count(0) = 2 | count(1) = 2 | count(2) = 2 | count(3) = 3 | count(4) = 1 | count(5) = 1 | count(6) = 2 | count(7) = 3 | count(8) = 2 | count(9) = 3
            count(10) = -1 | count(-1) = -1 | count(2147483647) = -1 | count(-2147483648) = -1
            """);
    }

    private static void status(Script s) {
        s.run("# promise 47\nnew\nstatus() = 0");
        String[][] refused = {
            {"child(0, false, 0, 0, 0)", "-1"}, {"shut(0, 400)", "-1"}, {"shut(0, 0)", "-2"}, {"comes(0, 0, 0)", "-2"},
            {"goes(0, 0, 400, 0)", "-1"}, {"goes(0, 0, 0, -1)", "-2"}, {"failed(8, 0)", "-1"}, {"has(0, 2, 0, 0)", "-1"},
            {"has(0, 0, 0, 0)", "-2"}, {"mark(0, 0, 0, 26, 0, 0)", "-1"}, {"mark(0, 0, 0, 0, 0, 0)", "-2"}, {"appeal(0, 26, 0)", "-1"},
            {"appeal(0, 0, 0)", "-2"}, {"act(400)", "-1"}, {"act(0)", "-6"}, {"take(0, 4, 0)", "-1"}, {"take(0, 0, 0)", "-2"},
            {"pay(0, 4, 0)", "-1"}, {"pay(0, 0, 0)", "-2"}, {"record(-1)", "-1"}, {"missing(0, -1)", "-1"}, {"missing(0, 0)", "-2"},
            {"visit(0, 0, 0)", "-1"}, {"visit(0, 1, 1)", "-2"}, {"draw(0, 2, 0)", "-1"}, {"draw(0, 0, 0)", "-2"}, {"seal(400)", "-1"},
            {"alter(0, 0)", "-1"}, {"alter(0, 1)", "-2"}, {"image(2)", "-1"}, {"back(2)", "-1"}, {"back(0)", "-2"}};
        for (String[] row : refused) {
            s.due(row[0], Integer.parseInt(row[1]));
            s.due("status()", Integer.parseInt(row[1]));
            s.due("image(1)", 0);
            s.due("status()", 0);
        }
        s.run("""
            # promise 47: calls that it does not tell of leave it
            child(0, false, 0, 0, 0) = -1
            isOn(0, 0, 0) = -1 | tells(0, 0, 0, 0, 0) = -1 | sees(0, 0, 0, 0, 0) = -1 | feed(0, 0, 0, 0, 0) = 20 | end(9) = 9 | end(99) = -1
            fault() = 0 | force(0, 0, 0) = -1 | rate(0, 0, 0, 0, 0) = -1 | dip(0, 0, 0, 0, 0) = -1 | due(0, 0, 0, 0) = -1 | stands(0, 0, 0) = -1
            fine(0, 0, 0, 0) = -1 | off(0, 0, 0) = -1 | rolls(0, 0, -1) = 0 | seen(0, 0, 0) = -1 | join(0) = 0 | joined(-1) = 1 | judge(0, 0) = 0
            cannot(0, 0, 0, -1) = 0 | round(0, 0, 0, 0) = 0 | dips(0, 0, 1, 0) = 0 | helped(0) = 1 | beside(0, 0) = -1 | found(0) = -3 | count(0) = 0
            status() = -1
            school() = 0 | status() = 0
            beside(0, 0) = -1 | found(9) = -3 | join(9) = -1 | status() = 0
            """);
    }
}
