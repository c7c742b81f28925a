/** Promises 10 to 13: marks, appeals, what is told of them and who sees it. */
public final class MarksTest {
    private static final String BASE = """
        new
        child(10, true, 2, 0, 0) = 0 | child(7, false, -1, 3, 4) = 1
        school() = 0 | school() = 1
        comes(0, 0, 0) = 1 | comes(1, 0, 0) = 2 | comes(0, 1, 0) = 3
        """;

    public static void main(String[] args) {
        Script s = new Script("MarksTest");
        marks(s);
        room(s);
        appeals(s);
        kinds(s);
        sight(s);
        s.close();
    }

    private static void marks(Script s) {
        s.run(BASE).run("""
            # promise 10
            mark(0, 0, 0, 0, 0, 0) = 0 | status() = 0
            mark(0, 0, 0, 25, 300, 399) = 1
            mark(0, 0, -1, 0, 0, 0) = -1 | mark(0, 0, 800, 0, 0, 0) = -1
            mark(0, 0, 0, -1, 0, 0) = -1 | mark(0, 0, 0, 26, 0, 0) = -1
            mark(0, 0, 0, 0, -1, 0) = -1 | mark(0, 0, 0, 0, 301, 0) = -1
            mark(0, 0, 0, 0, 0, -1) = -1 | mark(0, 0, 0, 0, 0, 400) = -1 | mark(9, 9, 10, 0, 0, 400) = -1 | status() = -1
            mark(2, 0, 10, 0, 0, 0) = -2 | mark(0, 2, 10, 0, 0, 0) = -2 | mark(-1, 0, 0, 0, 0, 0) = -2 | status() = -2
            mark(0, 0, 9, 0, 0, 0) = 2
            mark(0, 0, 10, 0, 0, 0) = -3 | mark(0, 0, 11, 0, 0, 0) = -3 | mark(0, 0, 12, 0, 0, 0) = -3 | mark(0, 0, 13, 0, 0, 0) = -3
            mark(0, 0, 14, 0, 0, 0) = 3 | status() = 0
            mark(1, 1, 0, 0, 0, 0) = -3 | status() = -3
            shut(0, 1) = 0
            mark(0, 0, 2, 0, 0, 0) = -3 | mark(0, 0, 3, 0, 0, 0) = -3 | mark(1, 0, 2, 0, 0, 0) = 4
            goes(1, 0, 8, -1) = 0
            mark(0, 1, 15, 0, 0, 0) = 5 | mark(0, 1, 16, 0, 0, 0) = -3
            mark(0, 0, 797, 0, 0, 0) = -3
            count(3) = 6
            """);
        s.run(BASE).run("""
            # promise 12: the one told last of those that are known
            mark(0, 0, 4, 1, 10, 5) = 0 | mark(0, 0, 4, 2, 20, 3) = 1 | mark(0, 0, 4, 3, 30, 7) = 2
            tells(0, 0, 4, 2, 0) = -1 | tells(0, 0, 4, 3, 0) = 1 | tells(0, 0, 4, 5, 0) = 1 | tells(0, 0, 4, 6, 0) = 1
            tells(0, 0, 4, 7, 0) = 2 | tells(0, 0, 4, 399, 0) = 2
            tells(0, 0, 4, 6, 1) = 2 | tells(0, 0, 4, 6, 2) = 20 | tells(0, 0, 4, 7, 1) = 3 | tells(0, 0, 4, 7, 2) = 30
            tells(0, 0, 5, 399, 0) = -1 | tells(1, 0, 4, 399, 0) = -1 | tells(0, 1, 4, 399, 0) = -1
            tells(0, 0, 4, 7, 3) = 4 | tells(0, 0, 4, 7, 4) = -1
            tells(0, 0, 4, 7, 5) = -1 | tells(0, 0, 4, 7, -1) = -1 | tells(2, 0, 4, 7, 0) = -1 | tells(0, 2, 4, 7, 0) = -1
            tells(0, 0, -1, 7, 0) = -1 | tells(0, 0, 800, 7, 0) = -1 | tells(0, 0, 4, -1, 0) = -1 | tells(0, 0, 4, 400, 0) = -1
            """);
    }

    private static void room(Script s) {
        s.run(BASE);
        for (int i = 0; i < 400; i++) {
            s.due("mark(0, 0, " + i % 10 + ", 0, 0, 0)", i);
        }
        s.run("""
            # promise 10: 400 marks
            mark(0, 0, 0, 0, 0, 0) = -5 | status() = -5 | mark(0, 0, 10, 0, 0, 0) = -3
            tells(0, 0, 9, 0, 0) = 399 | tells(0, 0, 0, 0, 0) = 390
            appeal(399, 0, 0) = 0 | appeal(400, 0, 0) = -2
            """);
    }

    private static void appeals(Script s) {
        s.run(BASE).run("""
            # promise 11
            text code a here;code b away
            act(0) = 0
            mark(0, 0, 0, 1, 5, 4) = 0
            appeal(0, 26, 0) = -1 | appeal(0, -1, 0) = -1 | appeal(0, 0, -1) = -1 | appeal(9, 0, 400) = -1 | status() = -1
            appeal(1, 0, 0) = -2 | appeal(-1, 0, 0) = -2 | status() = -2
            appeal(0, 0, 6) = 0 | status() = 0
            appeal(0, 0, 6) = -4 | appeal(0, 1, 0) = -4 | status() = -4
            tells(0, 0, 0, 3, 1) = -1 | tells(0, 0, 0, 5, 1) = 1 | tells(0, 0, 0, 6, 1) = 0 | tells(0, 0, 0, 6, 2) = 5
            tells(0, 0, 0, 5, 3) = 3 | tells(0, 0, 0, 6, 3) = 0 | tells(0, 0, 0, 5, 4) = 1 | tells(0, 0, 0, 6, 4) = 0
            # promise 11: granted ahead of the day from which the mark is known
            mark(0, 0, 1, 1, 5, 9) = 1 | appeal(1, 0, 2) = 0
            tells(0, 0, 1, 8, 1) = -1 | tells(0, 0, 1, 9, 1) = 0
            # promise 11: a mark told later is told with its own letter
            mark(0, 0, 0, 1, 7, 8) = 2
            tells(0, 0, 0, 7, 1) = 0 | tells(0, 0, 0, 8, 1) = 1
            """);
    }

    private static void kinds(Script s) {
        s.run(BASE).run("""
            # promise 12: kinds
            text code a here;code b late;code c allowed;code d away;code e none;code a away if minutes>30 and school=1
            act(0) = 0
            mark(0, 0, 0, 0, 0, 0) = 0 | mark(0, 0, 1, 1, 0, 0) = 1 | mark(0, 0, 2, 2, 0, 0) = 2
            mark(0, 0, 3, 3, 0, 0) = 3 | mark(0, 0, 4, 4, 0, 0) = 4 | mark(0, 0, 5, 5, 0, 0) = 5
            mark(1, 0, 6, 0, 31, 0) = 6 | mark(1, 0, 7, 0, 30, 0) = 7 | mark(0, 0, 6, 0, 31, 0) = 8
            tells(0, 0, 0, 0, 3) = 0 | tells(0, 0, 1, 0, 3) = 1 | tells(0, 0, 2, 0, 3) = 2 | tells(0, 0, 3, 0, 3) = 3
            tells(0, 0, 4, 0, 3) = 4 | tells(0, 0, 4, 0, 4) = 4 | tells(0, 0, 5, 0, 3) = 4 | tells(0, 0, 5, 0, 4) = -1
            tells(1, 0, 6, 0, 3) = 3 | tells(1, 0, 6, 0, 4) = 5 | tells(1, 0, 7, 0, 3) = 0 | tells(0, 0, 6, 0, 3) = 0
            # promise 12: a later text goes ahead, from its day on
            text code b here if half=1;code b here if 1/0=0;code b away if day<1 or 1/0=0
            act(1) = 1
            tells(0, 0, 1, 0, 3) = 1
            mark(0, 0, 8, 1, 0, 0) = 9 | mark(0, 0, 9, 1, 0, 0) = 10
            tells(0, 0, 8, 0, 3) = 1 | tells(0, 0, 8, 0, 4) = 1 | tells(0, 0, 9, 0, 3) = 0 | tells(0, 0, 9, 0, 4) = 12
            # promise 12: sessions are 0 in a code
            text code d here if away>0 or possible>0
            act(0) = 2
            mark(0, 0, 14, 3, 0, 0) = 11
            tells(0, 0, 14, 0, 3) = 3 | tells(0, 0, 14, 0, 5) = -1 | tells(0, 0, 14, 0, -1) = -1
            off(0, 14, 0) = 0 | due(0, 0, 0, 0) = -1 | tells(0, 0, 14, 0, 3) = 3 | sees(0, 0, 0, 14, 0) = 3
            """);
    }

    private static void sight(Script s) {
        s.run(BASE).run("""
            # promise 13
            text shut m 2 if carer;shut m 0 if minutes>5;shut n 1 if away=0;shut o 3 if 1/0=0
            act(1) = 0
            mark(0, 0, 0, 12, 9, 0) = 0 | mark(0, 0, 2, 12, 9, 0) = 1 | mark(0, 1, 2, 12, 5, 0) = 2
            mark(0, 0, 3, 13, 0, 3) = 3 | mark(0, 0, 4, 14, 0, 0) = 4
            sees(2, 0, 0, 0, 0) = 12
            sees(2, 0, 0, 2, 0) = -3 | sees(0, 0, 0, 2, 0) = -3 | sees(1, 0, 0, 2, 0) = 12 | sees(3, 0, 0, 2, 0) = 12
            sees(2, 0, 1, 2, 0) = 12 | sees(0, 0, 1, 2, 0) = 12
            sees(1, 0, 0, 3, 2) = -1 | sees(1, 0, 0, 3, 3) = -3 | sees(3, 0, 0, 4, 0) = 14
            sees(4, 0, 0, 2, 0) = -1 | sees(-1, 0, 0, 2, 0) = -1 | sees(0, 2, 0, 2, 0) = -1 | sees(0, 0, 2, 2, 0) = -1
            sees(0, 0, 0, 800, 0) = -1 | sees(0, 0, 0, 2, 400) = -1 | sees(0, 0, 0, 5, 0) = -1
            appeal(1, 0, 4) = 0
            sees(2, 0, 0, 2, 3) = -3 | sees(2, 0, 0, 2, 4) = 0
            status() = 0
            """);
    }
}
