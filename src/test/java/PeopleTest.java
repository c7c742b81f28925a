/** Promises 2 to 9: children, schools, shut days, rolls, buses, part days and home. */
public final class PeopleTest {
    private static final String BASE = """
        new
        child(10, true, 2, 0, 0) = 0 | child(7, false, -1, 3, 4) = 1
        school() = 0 | school() = 1
        """;

    public static void main(String[] args) {
        Script s = new Script("PeopleTest");
        children(s);
        schools(s);
        shutDays(s);
        comesAndGoes(s);
        buses(s);
        spans(s);
        s.close();
    }

    private static void children(Script s) {
        s.run("""
            # promise 2
            child(3, false, -1, 0, 0) = 0 | status() = 0
            child(18, true, 7, 99, 99) = 1
            child(2, false, -1, 0, 0) = -1 | status() = -1
            child(19, false, -1, 0, 0) = -1
            child(10, false, -2, 0, 0) = -1
            child(10, false, 8, 0, 0) = -1
            child(10, false, 0, -1, 0) = -1
            child(10, false, 0, 100, 0) = -1
            child(10, false, 0, 0, -1) = -1
            child(10, false, 0, 0, 100) = -1
            child(-2147483648, false, 2147483647, 0, 0) = -1
            count(0) = 2
            """);
        for (int i = 2; i < 40; i++) {
            s.due("child(9, false, 0, 1, 1)", i);
        }
        s.run("""
            child(9, false, 0, 1, 1) = -5 | status() = -5
            child(2, false, 0, 1, 1) = -1
            count(0) = 40
            """);
    }

    private static void schools(Script s) {
        s.run("""
            # promise 3
            new
            school() = 0 | school() = 1 | school() = 2 | school() = 3 | school() = 4 | status() = 0
            school() = -5 | status() = -5 | count(1) = 5
            """);
    }

    private static void shutDays(Script s) {
        s.run(BASE).run("""
            # promise 4
            shut(0, 0) = 0 | shut(0, 399) = 0 | shut(1, 0) = 0 | status() = 0
            shut(0, 0) = -4 | status() = -4
            shut(0, -1) = -1 | shut(0, 400) = -1 | shut(9, 400) = -1 | status() = -1
            shut(2, 0) = -2 | shut(-1, 0) = -2 | status() = -2
            """);
    }

    private static void comesAndGoes(Script s) {
        s.run(BASE).run("""
            # promise 5
            comes(0, 0, 5) = 1 | status() = 0
            comes(0, 0, 5) = -3 | comes(0, 0, 6) = -3 | status() = -3
            comes(0, 0, 4) = -3
            comes(0, 1, 5) = 2
            comes(1, 0, 399) = 3
            comes(0, 0, 400) = -1 | comes(0, 0, -1) = -1 | comes(9, 9, 400) = -1
            comes(2, 0, 0) = -2 | comes(-1, 0, 0) = -2 | comes(0, 2, 0) = -2 | comes(0, -1, 0) = -2 | status() = -2
            count(2) = 3
            # promise 6
            goes(0, 0, 4, -1) = -3 | status() = -3
            goes(0, 0, 9, -2) = -1 | goes(0, 0, 9, 2) = -1 | goes(0, 0, 9, 9) = -1 | goes(0, 0, 400, 1) = -1
            goes(2, 0, 9, 1) = -2 | goes(0, 2, 9, 1) = -2 | status() = -2
            goes(1, 1, 9, -1) = -3
            goes(0, 0, 9, 1) = 0 | status() = 0
            goes(0, 0, 9, 1) = -3 | goes(0, 0, 12, -1) = -3
            # promise 7
            isOn(0, 0, 4) = 0 | isOn(0, 0, 5) = 1 | isOn(0, 0, 8) = 1 | isOn(0, 0, 9) = 0 | isOn(0, 0, 399) = 0
            isOn(0, 1, 399) = 1 | isOn(1, 0, 398) = 0 | isOn(1, 0, 399) = 1 | isOn(1, 1, 0) = 0
            isOn(2, 0, 0) = -1 | isOn(-1, 0, 0) = -1 | isOn(0, 2, 0) = -1 | isOn(0, 0, 400) = -1 | isOn(0, 0, -1) = -1
            # promises 5, 6: again on the same roll, only behind the first time
            comes(0, 0, 5) = -3 | comes(0, 0, 8) = -3 | comes(0, 0, 3) = -3
            comes(0, 0, 9) = 4
            isOn(0, 0, 9) = 1
            goes(0, 0, 8, -1) = -3
            goes(0, 0, 9, -1) = 0
            isOn(0, 0, 9) = 0
            comes(0, 0, 9) = -3
            comes(0, 0, 10) = 5
            isOn(0, 0, 10) = 1 | isOn(0, 0, 7) = 1
            """);
        s.run(BASE);
        for (int i = 0; i < 60; i++) {
            s.due("comes(0, 0, " + 2 * i + ")", 2 * i + 1);
            s.due("goes(0, 0, " + (2 * i + 1) + ", -1)", 0);
            s.due("comes(1, 1, " + 2 * i + ")", 2 * i + 2);
            s.due("goes(1, 1, " + (2 * i + 1) + ", -1)", 0);
        }
        s.run("""
            # promise 5: 120 rolls
            count(2) = 120
            comes(0, 1, 0) = -5 | status() = -5 | comes(0, 0, 0) = -3 | comes(2, 0, 0) = -2
            """);
    }

    private static void buses(Script s) {
        s.run("""
            # promise 8
            new
            failed(0, 0) = 1 | failed(7, 799) = 2 | failed(0, 1) = 3 | status() = 0
            failed(0, 0) = -4 | status() = -4
            failed(-1, 0) = -1 | failed(8, 0) = -1 | failed(0, -1) = -1 | failed(0, 800) = -1 | status() = -1
            """);
        for (int i = 3; i < 60; i++) {
            s.due("failed(1, " + i + ")", i + 1);
        }
        s.run("failed(1, 100) = -5 | status() = -5 | failed(0, 0) = -4");
    }

    private static void spans(Script s) {
        s.run(BASE).run("""
            # promise 9
            has(0, 0, 0, 0) = 1 | has(0, 0, 0, 0) = 2 | has(0, 1, 0, 399) = 1 | has(1, 1, 3, 4) = 2 | status() = 0
            has(0, 2, 0, 0) = -1 | has(0, -1, 0, 0) = -1 | has(0, 0, -1, 0) = -1 | has(0, 0, 0, 400) = -1
            has(0, 0, 5, 4) = -1 | has(9, 0, 5, 4) = -1 | status() = -1
            has(2, 0, 0, 0) = -2 | has(-1, 0, 0, 0) = -2 | status() = -2
            """);
        for (int i = 2; i < 60; i++) {
            s.due("has(0, 0, " + i + ", 399)", i + 1);
            s.due("has(0, 1, " + i + ", 399)", i + 1);
        }
        s.run("""
            has(0, 0, 0, 0) = -5 | has(0, 1, 0, 0) = -5 | status() = -5 | has(3, 0, 0, 0) = -2
            """);
    }
}
