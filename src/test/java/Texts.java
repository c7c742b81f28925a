import java.util.Random;

/** Puts texts on tapes, and makes random ones. */
final class Texts {
    private static final String[] KINDS = {"here", "late", "allowed", "away", "none"};
    private static final String[] SUM_WORDS = {"born", "minutes", "half", "day", "week", "school", "away", "possible"};
    private static final String[] TEST_WORDS = {"carer", "part", "bus", "home"};
    private static final String[] ODDS = {"if", "or", "and", "not", "(", ")", "[", "]", "code", "a", "12", "strike",
        "clause", "in", "quick", "<", "=", ">", "+", "-", "*", "/", ";", "off", "fine", "10001", "A", "possibles", "step"};

    private Texts() {
    }

    /** The five numbers of the feed that puts the text's bytes from .. from + 20 on, with blanks behind its end. */
    static int[] numbers(String text, int from) {
        int[] five = new int[5];
        for (int i = 0; i < 20; i++) {
            int at = from + i;
            int sign = at < text.length() ? text.charAt(at) : ' ';
            five[i / 4] = five[i / 4] << 8 | sign;
        }
        return five;
    }

    /** Puts a text on an empty tape; false if the tape would not take it. */
    static boolean put(HalfDays x, String text) {
        for (int from = 0; from < text.length(); from += 20) {
            int[] n = numbers(text, from);
            if (x.feed(n[0], n[1], n[2], n[3], n[4]) == HalfDays.NONE) {
                return false;
            }
        }
        return x.end(text.length()) == text.length();
    }

    static int act(HalfDays x, String text, int from) {
        return put(x, text) ? x.act(from) : -99;
    }

    private static String pick(Random r, String[] words) {
        return words[r.nextInt(words.length)];
    }

    static String sum(Random r, int depth) {
        int turn = r.nextInt(10);
        if (depth <= 0 || turn < 3) {
            return r.nextInt(3) == 0 ? "" + r.nextInt(r.nextInt(4) == 0 ? 10001 : 6) : pick(r, SUM_WORDS);
        }
        String op = pick(r, new String[] {"+", "-", "*", "/", "+", "-"});
        String gap = r.nextBoolean() ? " " : "";
        String joined = sum(r, depth - 1) + gap + op + gap + sum(r, depth - 1);
        return turn < 7 ? joined : "[" + joined + "]";
    }

    static String test(Random r, int depth) {
        int turn = r.nextInt(10);
        if (depth <= 0 || turn < 2) {
            return r.nextInt(3) == 0 ? pick(r, TEST_WORDS)
                    : sum(r, 1) + " " + pick(r, new String[] {"<", ">", "="}) + sum(r, 1);
        }
        if (turn < 4) {
            return "not " + test(r, depth - 1);
        }
        if (turn < 6) {
            return "(" + test(r, depth - 1) + ")";
        }
        return test(r, depth - 1) + (r.nextBoolean() ? " or " : " and ") + test(r, depth - 1);
    }

    private static String letter(Random r) {
        return "" + (char) ('a' + r.nextInt(4));
    }

    static String clause(Random r, int acts) {
        int turn = r.nextInt(12);
        String head;
        if (turn < 1) {
            return "strike " + r.nextInt(Math.max(1, acts + 1)) % 20 + " clause " + r.nextInt(4);
        } else if (turn < 6) {
            head = "code " + letter(r) + " " + (r.nextInt(3) == 0 ? "away" : pick(r, KINDS));
        } else if (turn < 8) {
            String count = r.nextInt(3) == 0 ? sum(r, 2) : "" + r.nextInt(4);
            head = "step " + r.nextInt(4) + " " + count + " in " + (1 + r.nextInt(r.nextBoolean() ? 400 : 8));
        } else if (turn < 10) {
            String count = r.nextInt(2) == 0 ? sum(r, 2) : "" + r.nextInt(200);
            head = "fine " + r.nextInt(4) + " " + count + " quick " + (1 + r.nextInt(6));
        } else if (turn < 11) {
            head = "shut " + letter(r) + " " + r.nextInt(4);
        } else {
            head = "off";
        }
        return r.nextInt(3) == 0 ? head : head + " if " + test(r, r.nextInt(4));
    }

    /** Mostly a text that can be; now and then with a token too many or too few, or a byte turned. */
    static String random(Random r, int acts) {
        int many = 1 + r.nextInt(r.nextInt(5) == 0 ? 13 : 5);
        StringBuilder s = new StringBuilder();
        for (int i = 0; i < many; i++) {
            s.append(i == 0 ? "" : r.nextBoolean() ? "; " : ";").append(clause(r, acts));
        }
        int turn = r.nextInt(12);
        int place = s.length() == 0 ? 0 : r.nextInt(s.length());
        if (turn == 0) {
            s.insert(place, " " + pick(r, ODDS) + " ");
        } else if (turn == 1) {
            s.setLength(place);
        } else if (turn == 2) {
            s.setCharAt(place, (char) r.nextInt(256));
        } else if (turn == 3) {
            s.deleteCharAt(place);
        }
        if (s.length() > 400) {
            s.setLength(r.nextInt(3) == 0 ? 400 : Math.max(0, s.lastIndexOf(";", 400)));
        }
        return s.toString();
    }
}
