/** Terms I: where a call can be refused by more than one number, it is refused by the first in the order -1, -2, -3, -4, -5, -6. */
public final class OrderTest {
    private static final String BASE = """
        new
        child(10, true, 2, 0, 0) = 0 | child(7, false, -1, 3, 4) = 1 | school() = 0 | school() = 1
        comes(0, 0, 0) = 1
        """;

    public static void main(String[] args) {
        Script s = new Script("OrderTest");
        people(s);
        rolls(s);
        marks(s);
        acts(s);
        steps(s);
        lists(s);
        s.close();
    }

    private static void people(Script s) {
        s.run("# promise 2: -1 ahead of -5\nnew");
        for (int i = 0; i < 40; i++) {
            s.due("child(9, false, 0, 0, 0)", i);
        }
        s.run("child(9, false, 0, 0, 0) = -5 | child(2, false, 0, 0, 0) = -1 | child(9, false, 8, 0, 0) = -1 | child(9, false, 0, 100, 0) = -1 | child(9, false, 0, 0, -1) = -1");
        s.run(BASE).run("""
            # promise 4: -1 ahead of -2 ahead of -4
            shut(0, 5) = 0 | shut(0, 5) = -4 | shut(2, 5) = -2 | shut(2, 400) = -1 | shut(-1, -1) = -1
            # promise 8: -1 ahead of -4 ahead of -5
            """);
        for (int i = 0; i < 60; i++) {
            s.due("failed(0, " + i + ")", i + 1);
        }
        s.run("failed(0, 60) = -5 | failed(0, 59) = -4 | failed(0, 0) = -4 | failed(8, 0) = -1 | failed(0, 800) = -1 | failed(1, 0) = -5");
        s.run(BASE).run("# promise 9: -1 ahead of -2 ahead of -5");
        for (int i = 0; i < 60; i++) {
            s.due("has(0, 1, 0, 0)", i + 1);
        }
        s.run("has(0, 1, 0, 0) = -5 | has(2, 1, 0, 0) = -2 | has(2, 1, 1, 0) = -1 | has(2, 2, 0, 0) = -1 | has(0, 1, 0, 400) = -1 | has(0, 0, 0, 0) = 1");
    }

    private static void rolls(Script s) {
        s.run(BASE).run("""
            # promise 5: -1 ahead of -2 and -3, -2 ahead of -3
            comes(0, 0, 0) = -3 | comes(2, 0, 0) = -2 | comes(0, 2, 0) = -2 | comes(2, 2, 400) = -1 | comes(0, 0, -1) = -1
            # promise 6: -1, of whither too, ahead of -2 ahead of -3
            goes(0, 0, 3, -1) = 0 | goes(0, 0, 3, -1) = -3 | goes(2, 0, 3, -1) = -2 | goes(0, 2, 3, -1) = -2
            goes(0, 0, 3, 2) = -1 | goes(2, 0, 3, 2) = -1 | goes(0, 2, 3, -2) = -1 | goes(2, 2, 400, -1) = -1 | goes(0, 0, 400, 0) = -1
            # promise 5: -1, -2, -3 ahead of -5
            """);
        s.run(BASE);
        for (int i = 0; i < 119; i++) {
            s.due("comes(1, 1, " + i + ")", i + 2);
            s.due("goes(1, 1, " + i + ", -1)", 0);
        }
        s.run("comes(1, 1, 119) = -5 | comes(1, 1, 118) = -3 | comes(0, 0, 399) = -3 | comes(2, 1, 119) = -2 | comes(1, 1, 400) = -1 | comes(0, 1, 0) = -5");
    }

    private static void marks(Script s) {
        s.run(BASE).run("""
            # promise 10: -1 ahead of -2 ahead of -3
            mark(2, 2, 10, 26, 0, 0) = -1 | mark(2, 0, 10, 0, 0, 0) = -2 | mark(0, 2, 10, 0, 0, 0) = -2 | mark(0, 1, 0, 0, 0, 0) = -3
            mark(0, 1, 800, 0, 0, 0) = -1 | mark(0, 1, 0, 0, 301, 0) = -1 | mark(0, 1, 0, 0, 0, 400) = -1
            # promise 11: -1 ahead of -2 and -4
            mark(0, 0, 0, 0, 0, 0) = 0 | appeal(0, 1, 0) = 0 | appeal(0, 1, 0) = -4 | appeal(0, 26, 0) = -1 | appeal(0, 1, 400) = -1
            appeal(1, 26, 0) = -1 | appeal(1, 1, 400) = -1 | appeal(1, 1, 0) = -2
            # promise 42: -1 ahead of -2
            alter(1, 0) = -1 | alter(1, 8) = -1 | alter(-1, 8) = -1 | alter(1, 1) = -2
            # promise 45: -1 ahead of -2
            back(2) = -1 | back(-1) = -1 | back(0) = -2
            """);
        for (int i = 1; i < 400; i++) {
            s.due("mark(0, 0, 2, 0, 0, 0)", i);
        }
        s.run("""
            # promise 10: -1, -2, -3 ahead of -5
            mark(0, 0, 2, 0, 0, 0) = -5 | mark(0, 0, 10, 0, 0, 0) = -3 | mark(0, 1, 2, 0, 0, 0) = -3 | mark(2, 0, 2, 0, 0, 0) = -2 | mark(0, 0, 2, 26, 0, 0) = -1
            """);
    }

    private static void acts(Script s) {
        s.run("# promise 16: -1 ahead of -5 and -6, -5 ahead of -6\nnew\nact(400) = -1 | act(-1) = -1 | act(0) = -6");
        for (int i = 0; i < 20; i++) {
            s.run("text off").due("act(0)", i);
        }
        s.run("""
            text of
            act(0) = -5 | act(400) = -1 | act(-1) = -1 | fault() = -1 | count(9) = 2
            """);
        s.run("end(0) = 0 | act(0) = -5 | fault() = -1");
    }

    private static void steps(Script s) {
        s.run(BASE).run("""
            text code a away;step 0 1 in 1;step 1 1 in 1
            act(0) = 0
            mark(0, 0, 4, 0, 0, 0) = 0 | mark(0, 0, 6, 0, 0, 0) = 1
            # promise 22: -1 ahead of -2, -3, -4; -2 ahead of -3; -3 ahead of -4
            take(2, 4, 0) = -1 | take(2, 0, 400) = -1 | take(2, 1, 0) = -2 | take(0, 1, 3) = -3 | take(0, 4, 3) = -1 | take(0, 1, 400) = -1
            take(0, 0, 2) = 0 | take(0, 0, 2) = -4 | take(0, 0, 1) = -3 | take(0, 0, 400) = -1 | take(0, 0, 399) = -4
            take(0, 1, 3) = 0 | take(0, 1, 3) = -4 | take(0, 1, 2) = -3 | take(0, 1, -1) = -1
            # promise 24: -1 ahead of -2, -3, -4; -2 ahead of -3; -3 ahead of -4
            pay(2, 4, 0) = -1 | pay(2, 0, 400) = -1 | pay(2, 0, 0) = -2 | pay(0, 0, 1) = -3 | pay(0, 2, 399) = -3 | pay(0, 4, 1) = -1 | pay(0, 2, 400) = -1
            pay(0, 0, 2) = 0 | pay(0, 0, 2) = -4 | pay(0, 0, 1) = -3 | pay(0, 0, 400) = -1 | pay(2, 0, 2) = -2
            """);
    }

    private static void lists(Script s) {
        s.run("new");
        for (int i = 0; i < 14; i++) {
            s.due("child(9, false, 0, 0, 0)", i);
        }
        s.run("""
            # promise 29: -1 ahead of -5
            record(1) = 1 | record(1) = 2 | record(1) = 3 | record(1) = 4 | record(1) = 5 | record(1) = 6 | record(1) = -5 | record(-1) = -1 | record(100000000) = -1
            # promise 30: -1 ahead of -2, -4, -5; -2 ahead of -5; -4 ahead of -5
            missing(0, 1) = 1 | missing(0, -1) = -1 | missing(14, -1) = -1 | missing(0, 1) = -4 | missing(14, 1) = -2
            missing(1, 1) = 2 | missing(2, 1) = 3 | missing(3, 1) = 4 | missing(4, 1) = 5 | missing(5, 1) = 6
            missing(6, 1) = -5 | missing(5, 1) = -4 | missing(0, 2) = -4 | missing(14, 1) = -2 | missing(6, 100000000) = -1 | missing(5, -1) = -1
            # promise 35: -1 ahead of -2 ahead of -5
            visit(14, 0, 1) = -1 | visit(14, 1, 0) = -1 | visit(14, 1, 1) = -2
            visit(0, 1, 1) = 1 | visit(0, 1, 1) = 2 | visit(0, 1, 1) = 3 | visit(0, 1, 1) = 4 | visit(0, 1, 1) = 5 | visit(0, 1, 1) = 6 | visit(0, 1, 1) = 7
            visit(0, 1, 1) = 8 | visit(0, 1, 1) = 9 | visit(0, 1, 1) = -5 | visit(14, 1, 1) = -2 | visit(0, 201, 1) = -1 | visit(0, 1, 1001) = -1
            # promise 38: -1 ahead of -2, -4, -5; -2 ahead of -5; -4 ahead of -5
            draw(0, 1, 1) = 1 | draw(0, 2, 1) = -1 | draw(14, 2, 1) = -1 | draw(14, 0, 101) = -1 | draw(0, 1, 1) = -4 | draw(14, 1, 1) = -2
            """);
        for (int i = 1; i < 12; i++) {
            s.due("draw(" + i + ", 0, 0)", i + 1);
        }
        s.run("draw(12, 0, 0) = -5 | draw(11, 0, 0) = -4 | draw(0, 0, 0) = -4 | draw(14, 0, 0) = -2 | draw(12, 2, 0) = -1 | draw(11, 0, -101) = -1");
    }
}
