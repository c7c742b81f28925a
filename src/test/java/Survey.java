import java.util.ArrayList;
import java.util.List;

/**
 * Calls that ask, and at last tell, so much that two objects which do not hold the same answer differently somewhere.
 * They stand in groups: each group is for an object of its own, as an object has 512 calls.
 */
final class Survey {
    static final int CALLS = 512;
    private static final int[] SOME_DAYS = {0, 4, 9, 399};
    private static final List<List<Call>> GROUPS = List.of(rolls(), marks(), steps(), lists(), acts(), buses(), next(), images());

    private Survey() {
    }

    static int groups() {
        return GROUPS.size();
    }

    /** What an object to which these calls were told answers; as many calls of the group as it has left. */
    static List<Integer> answers(List<Call> told, int group) {
        HalfDays x = new HalfDays();
        for (Call call : told) {
            call.on(x);
        }
        List<Integer> answers = new ArrayList<>();
        List<Call> calls = GROUPS.get(group);
        for (int i = 0; i < calls.size() && told.size() + i < CALLS - 1; i++) {
            answers.add(calls.get(i).on(x));
        }
        return answers;
    }

    /** The call of a group, for the message. */
    static String text(int group, int i) {
        return GROUPS.get(group).get(i).text;
    }

    private static void add(List<Call> calls, String format, Object... numbers) {
        calls.add(Call.read(String.format(format, numbers)));
    }

    private static List<Call> rolls() {
        List<Call> a = new ArrayList<>();
        for (int what = 0; what < 10; what++) {
            add(a, "count(%d)", what);
        }
        add(a, "fault()");
        for (int i = -1; i < 3; i++) {
            add(a, "joined(%d)", i);
        }
        for (int day : new int[] {0, 5, 9, 50, 60, 399}) {
            for (int child = 0; child < 4; child++) {
                for (int school = 0; school < 4; school++) {
                    add(a, "isOn(%d, %d, %d)", child, school, day);
                }
            }
            for (int what = 0; what < 3; what++) {
                add(a, "rolls(%d, %d, -1)", day, what);
                add(a, "rolls(%d, %d, 0)", day, what);
                add(a, "rolls(%d, %d, 1)", day, what);
            }
        }
        return a;
    }

    private static List<Call> marks() {
        List<Call> a = new ArrayList<>();
        for (int half : new int[] {0, 1, 2, 4, 14, 799}) {
            for (int place = 0; place < 8; place++) {
                int school = place % 2;
                int child = place / 2;
                for (int known : new int[] {0, 9, 399}) {
                    if (known != 9) {
                        add(a, "tells(%d, %d, %d, %d, 0)", school, child, half, known);
                    }
                    add(a, "sees(%d, %d, %d, %d, %d)", place % 4, school, child, half, known);
                }
                add(a, "tells(%d, %d, %d, 399, 2)", school, child, half);
                add(a, "tells(%d, %d, %d, 399, 4)", school, child, half);
            }
        }
        return a;
    }

    private static List<Call> steps() {
        List<Call> a = new ArrayList<>();
        for (int known : SOME_DAYS) {
            for (int child = 0; child < 4; child++) {
                add(a, "rate(%d, 0, 799, %d, 0)", child, known);
                add(a, "rate(%d, 0, 799, %d, 1)", child, known);
                add(a, "seen(%d, 399, %d)", child, known);
                add(a, "off(%d, %d, %d)", child, known, known);
                for (int step = 0; step < 3; step++) {
                    add(a, "stands(%d, %d, %d)", child, step, known);
                    add(a, "fine(%d, %d, %d, 0)", child, step, known);
                    add(a, "fine(%d, %d, %d, 1)", child, step, known);
                    add(a, "fine(%d, %d, %d, 2)", child, step, known);
                }
            }
        }
        for (int step = 0; step < 4; step++) {
            add(a, "due(0, %d, 0, 399)", step);
            add(a, "due(1, %d, 0, 399)", step);
        }
        return a;
    }

    private static List<Call> lists() {
        List<Call> a = new ArrayList<>();
        for (int day = 0; day < 12; day++) {
            add(a, "found(%d)", day);
        }
        add(a, "found(398)");
        add(a, "found(399)");
        for (int row = 0; row < 20; row++) {
            add(a, "judge(%d, 0)", row);
        }
        for (int n = 0; n < 400; n += 23) {
            add(a, "round(10, 20, %d, 0)", n);
            add(a, "round(10, 20, %d, 1)", n);
            add(a, "round(10, 20, %d, 2)", n);
        }
        for (int week = 0; week < 3; week++) {
            add(a, "dips(%d, 399, 1, 0)", week);
            add(a, "dips(%d, 399, 1, 1)", week);
        }
        for (int school = 0; school < 4; school++) {
            add(a, "dip(%d, 0, 799, 399, 0)", school);
            add(a, "dip(%d, 0, 799, 399, 1)", school);
        }
        for (int i = -1; i < 4; i++) {
            add(a, "cannot(0, 799, 399, %d)", i);
            add(a, "cannot(0, 799, 0, %d)", i);
        }
        add(a, "helped(0)");
        add(a, "helped(1)");
        for (int least = 0; least < 9; least++) {
            add(a, "join(%d)", least);
            add(a, "joined(-1)");
            add(a, "joined(0)");
        }
        return a;
    }

    /** At last the tape is read, so that its bytes are seen too. */
    private static List<Call> acts() {
        List<Call> a = new ArrayList<>();
        for (int text = 0; text < 4; text++) {
            for (int clause = 0; clause < 7; clause++) {
                for (int day : new int[] {0, 9, 399}) {
                    add(a, "force(%d, %d, %d)", text, clause, day);
                }
            }
        }
        add(a, "count(9)");
        add(a, "act(0)");
        add(a, "fault()");
        add(a, "count(4)");
        for (int clause = 0; clause < 3; clause++) {
            for (int text = 0; text < 4; text++) {
                add(a, "force(%d, %d, 0)", text, clause);
            }
        }
        add(a, "count(9)");
        return a;
    }

    /** What was told already is told again here: it is refused if it was. */
    private static List<Call> buses() {
        List<Call> a = new ArrayList<>();
        for (int school = 0; school < 5; school++) {
            for (int day : new int[] {0, 1, 2, 3, 5, 8, 9, 398, 399}) {
                add(a, "shut(%d, %d)", school, day);
            }
        }
        for (int half : new int[] {0, 1, 4, 5, 9, 100, 799}) {
            for (int route = 0; route < 8; route++) {
                add(a, "failed(%d, %d)", route, half);
            }
        }
        for (int mark = 0; mark < 12; mark++) {
            add(a, "appeal(%d, 1, 1)", mark);
            add(a, "alter(%d, 1)", mark);
        }
        for (int child = 0; child < 5; child++) {
            for (int step = 0; step < 4; step++) {
                add(a, "take(%d, %d, %d)", child, step, 20 + step);
                add(a, "pay(%d, %d, 30)", child, step);
            }
        }
        return a;
    }

    private static List<Call> next() {
        List<Call> a = new ArrayList<>();
        for (int child = 0; child < 5; child++) {
            add(a, "missing(%d, 12345678)", child);
            add(a, "draw(%d, 1, 7)", child);
            add(a, "visit(%d, 7, 8)", child);
            for (int school = 0; school < 4; school++) {
                add(a, "comes(%d, %d, 200)", child, school);
                add(a, "goes(%d, %d, 201, 0)", child, school);
                add(a, "mark(%d, %d, 6, 3, 0, 0)", school, child);
            }
            add(a, "has(%d, 0, 3, 3)", child);
            add(a, "has(%d, 1, 3, 3)", child);
        }
        add(a, "record(1)");
        add(a, "join(0)");
        add(a, "child(9, true, 7, 3, 3)");
        add(a, "school()");
        add(a, "seal(3)");
        for (int what = 0; what < 10; what++) {
            add(a, "count(%d)", what);
        }
        return a;
    }

    private static List<Call> images() {
        List<Call> a = new ArrayList<>();
        for (int k = 1; k >= 0; k--) {
            add(a, "back(%d)", k);
            for (int what = 0; what < 10; what++) {
                add(a, "count(%d)", what);
            }
            for (int child = 0; child < 3; child++) {
                add(a, "rate(%d, 0, 799, 399, 1)", child);
                add(a, "isOn(%d, 0, 9)", child);
                add(a, "stands(%d, 0, 399)", child);
            }
        }
        return a;
    }
}
