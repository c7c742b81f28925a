import java.util.ArrayList;
import java.util.List;

/**
 * Runs calls that are written one a line, each with the answer that is due: "comes(0, 0, 5) = -3".
 * A line "new" makes a new object, "text ..." puts the rest of the line on the tape (which is emptied first),
 * behind "#" stands what the lines below are about.
 *
 * Behind a call that promise 47 names status() is asked, and one that was refused must have changed nothing else:
 * an object without it answers a survey alike. At last none of the calls that only ask may have changed anything.
 */
final class Script {
    private final Check check;
    private HalfDays x = new HalfDays();
    private String about = "";
    /** All calls of the object, and those that may have changed it. */
    private final List<Call> all = new ArrayList<>();
    private final List<Call> told = new ArrayList<>();
    private final List<List<Integer>> surveyed = new ArrayList<>();
    private int status;
    private int asked;

    Script(String name) {
        check = new Check(name);
    }

    Script run(String lines) {
        for (String line : lines.split("\n")) {
            String s = line.strip();
            if (s.startsWith("#")) {
                about = s;
            } else if (s.equals("new")) {
                renew();
            } else if (s.startsWith("text ")) {
                put(s.substring(5));
            } else if (!s.isEmpty()) {
                for (String part : s.split("\\|")) {
                    ask(part.strip());
                }
            }
        }
        return this;
    }

    private void renew() {
        check.due(about + ": an object has 512 calls, it had " + asked, asked <= Survey.CALLS ? 1 : 0, 1);
        surveyed.clear();
        compareSurveys(all, "the calls that only ask");
        x = new HalfDays();
        all.clear();
        told.clear();
        surveyed.clear();
        status = 0;
        asked = 0;
    }

    /** Puts a text on the tape, blanks at its ends too. */
    Script put(String text) {
        due("end(0)", 0);
        for (int from = 0; from < text.length(); from += 20) {
            int[] n = Texts.numbers(text, from);
            due(String.format("feed(%d, %d, %d, %d, %d)", n[0], n[1], n[2], n[3], n[4]), from + 20);
        }
        return text.length() % 20 == 0 ? this : due("end(" + text.length() + ")", text.length());
    }

    /** On an object of its own: a text is read, or (place below 0: not) refused with its fault at a place. */
    Script reads(String text, int place) {
        renew();
        put(text).due("act(0)", place < 0 ? 0 : -6).due("fault()", place).due("count(9)", 0);
        return due("count(4)", place < 0 ? 1 : 0);
    }

    private void ask(String s) {
        int equals = s.lastIndexOf('=');
        String call = s.substring(0, equals).strip();
        due(call, Long.parseLong(s.substring(equals + 1).strip()));
    }

    Script due(String text, long want) {
        Call call = Call.read(text);
        check.due(about + " " + text, call.on(x), want);
        asked++;
        all.add(call);
        if (call.isToldByStatus()) {
            heedStatus(text, (int) want);
        }
        if (isRefused(call, want)) {
            List<Call> behind = new ArrayList<>(told);
            behind.add(call);
            compareSurveys(behind, text);
        } else if (call.isTelling()) {
            told.add(call);
            surveyed.clear();
        }
        return this;
    }

    /** status() is asked where it changes, as an object's calls are few. */
    private void heedStatus(String text, int want) {
        int due = Math.min(want, 0);
        if (due != 0 || status != 0) {
            check.due(about + " status() behind " + text, x.status(), due);
            asked++;
        }
        status = due;
    }

    /** A text that can't be leaves the tape empty and a fault: that is no call without a trace. */
    private static boolean isRefused(Call call, long want) {
        return want < 0 && call.isTelling() && want != -6 && !call.isTried();
    }

    private void compareSurveys(List<Call> behind, String what) {
        for (int group = 0; group < Survey.groups(); group++) {
            if (surveyed.size() == group) {
                surveyed.add(Survey.answers(told, group));
            }
            List<Integer> want = surveyed.get(group);
            List<Integer> got = Survey.answers(behind, group);
            for (int i = 0; i < Math.min(want.size(), got.size()); i++) {
                if (!got.get(i).equals(want.get(i))) {
                    check.due(about + " " + Survey.text(group, i) + " behind " + what, got.get(i), want.get(i));
                    break;
                }
            }
        }
    }

    void close() {
        renew();
        check.close();
    }
}
