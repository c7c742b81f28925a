/** Promise 1: a new object has nothing, whichever call comes first; the constant is as the document says. */
public final class FaceTest {
    private static final String[] FIRST_CALLS = {
        "child(3, false, -1, 0, 0) = 0", "school() = 0", "shut(0, 0) = -2", "comes(0, 0, 0) = -2", "goes(0, 0, 0, -1) = -2",
        "goes(0, 0, 0, 0) = -1", "isOn(0, 0, 0) = -1", "failed(0, 0) = 1", "has(0, 0, 0, 0) = -2", "has(0, 1, 0, 0) = -2",
        "mark(0, 0, 0, 0, 0, 0) = -2", "appeal(0, 0, 0) = -2", "tells(0, 0, 0, 0, 0) = -1", "sees(0, 0, 0, 0, 0) = -1",
        "feed(0, 0, 0, 0, 0) = 20", "end(0) = 0", "end(1) = -1", "act(0) = -6", "fault() = -1", "force(0, 0, 0) = -1",
        "rate(0, 0, 799, 399, 0) = -1", "dip(0, 0, 799, 399, 0) = -1", "due(0, 0, 0, 399) = -1", "take(0, 0, 0) = -2",
        "stands(0, 0, 0) = -1", "pay(0, 0, 0) = -2", "fine(0, 0, 0, 0) = -1", "off(0, 0, 0) = -1", "rolls(0, 0, -1) = 0",
        "rolls(0, 0, 0) = -1", "rolls(399, 1, -1) = 0", "rolls(399, 1, 0) = -1", "rolls(0, 2, -1) = 0", "rolls(0, 2, 0) = -1",
        "seen(0, 399, 399) = -1", "record(0) = 1", "missing(0, 0) = -2", "join(0) = 0", "join(8) = 0", "joined(-1) = -1",
        "joined(0) = -1", "judge(0, 0) = 0", "judge(0, 8) = 0", "judge(1, 0) = -1", "cannot(0, 799, 399, -1) = 0",
        "cannot(0, 799, 399, 0) = -1", "visit(0, 1, 1) = -2", "round(0, 0, 0, 0) = 0", "round(0, 0, 2000, 0) = 0",
        "round(0, 0, 2000, 1) = 0", "round(0, 0, 2000, 2) = 0", "dips(0, 0, 1, 0) = 0", "dips(57, 399, 20, 0) = 0",
        "dips(0, 0, 1, 1) = 0", "draw(0, 0, 0) = -2", "helped(0) = 1", "helped(1) = 1", "beside(0, 0) = -1", "seal(0) = 0",
        "seal(399) = 0", "alter(0, 1) = -2", "found(0) = -3", "image(0) = 0", "image(1) = 0", "back(0) = -2", "back(1) = -2",
        "count(0) = 0", "count(1) = 0", "count(2) = 0", "count(3) = 0", "count(4) = 0", "count(5) = 0", "count(6) = 0",
        "count(7) = 0", "count(8) = 0", "count(9) = 0", "count(10) = -1", "status() = 0"};

    public static void main(String[] args) {
        Check check = new Check("FaceTest, the constant");
        check.due("NONE", HalfDays.NONE, -1);
        check.close();
        Script s = new Script("FaceTest").run("# promise 1: the first call");
        for (String call : FIRST_CALLS) {
            s.run("new").run(call);
        }
        none(s);
        s.close();
    }

    private static void none(Script s) {
        s.run("""
            # promise 1: a child and a school, and nothing told of them
            new
            child(5, true, 0, 0, 0) = 0 | school() = 0
            isOn(0, 0, 0) = 0 | isOn(0, 0, 399) = 0 | goes(0, 0, 0, -1) = -3 | mark(0, 0, 0, 0, 0, 0) = -3
            tells(0, 0, 0, 399, 0) = -1 | tells(0, 0, 0, 399, 4) = -1 | sees(0, 0, 0, 0, 399) = -1
            rate(0, 0, 799, 399, 0) = 0 | rate(0, 0, 799, 399, 1) = 0 | rate(0, 0, 799, 399, 2) = 0 | rate(0, 0, 799, 399, 3) = 1
            dip(0, 0, 799, 399, 0) = 0 | dip(0, 0, 799, 399, 1) = 0 | dip(0, 0, 799, 399, 2) = 0 | dip(0, 0, 799, 399, 3) = 1
            due(0, 0, 0, 399) = -1 | take(0, 0, 399) = -3 | stands(0, 0, 399) = 0 | pay(0, 0, 399) = -3
            fine(0, 0, 399, 0) = -1 | fine(0, 0, 399, 1) = -1 | fine(0, 0, 399, 2) = -1 | off(0, 0, 0) = 0 | off(0, 399, 399) = 0
            seen(0, 399, 399) = -1 | rolls(0, 0, -1) = 1 | rolls(0, 0, 0) = 0 | rolls(399, 0, -1) = 1 | rolls(0, 1, -1) = 0 | rolls(0, 2, -1) = 0
            cannot(0, 799, 399, -1) = 0 | dips(0, 399, 1, 0) = 0 | dips(0, 399, 1, 1) = 0
            seal(0) = 0 | found(0) = -1 | join(0) = 0 | joined(-1) = 1 | joined(0) = -1 | fault() = -1
            # promises 31 to 33: records without missing, missing without records
            record(1) = 1 | join(0) = 0 | joined(-1) = 1 | joined(0) = -1 | judge(0, 0) = 0 | judge(1, 0) = -1
            new
            child(5, true, 0, 0, 0) = 0 | missing(0, 1) = 1 | join(0) = 0 | joined(-1) = 1 | joined(0) = -1 | judge(0, 0) = 0 | judge(1, 0) = -1 | judge(7, 0) = -1
            """);
    }
}
