import java.util.ArrayList;
import java.util.List;

/** Reads an act's text into trees that are asked directly, rule by rule as the document has them. */
final class OracleText {
    static final class Broken extends RuntimeException {
        private static final long serialVersionUID = 1L;
    }

    private static final class Fault extends RuntimeException {
        private static final long serialVersionUID = 1L;
    }

    interface Asked {
        long word(String word);
    }

    interface Tree {
        long of(Asked asked);
    }

    /** a, b: LETTER and KIND, STEP and the days behind, LETTER and ROLE, TEXT and CLAUSE. */
    record Clause(String head, int a, int b, Tree sum, Tree test) { }

    private record Token(int place, String text) { }

    private static final List<String> KINDS = List.of("here", "late", "allowed", "away", "none");
    private static final List<String> SUM_WORDS =
            List.of("born", "minutes", "half", "day", "week", "school", "away", "possible");
    private static final List<String> TEST_WORDS = List.of("carer", "part", "bus", "home");

    private final List<Token> tokens = new ArrayList<>();
    private int at;
    private int leaves;
    private int open;
    private int fault = -1;

    OracleText(String text) {
        int i = 0;
        while (i < text.length()) {
            int j = i + 1;
            char c = text.charAt(i);
            while (j < text.length() && type(c) != 0 && type(text.charAt(j)) == type(c)) j++;
            if (c != ' ') tokens.add(new Token(i, text.substring(i, j)));
            i = j;
        }
        tokens.add(new Token(text.length(), ""));
    }

    private static int type(char c) {
        return c >= 'a' && c <= 'z' ? 1 : c >= '0' && c <= '9' ? 2 : 0;
    }

    int fault() {
        return fault;
    }

    List<Clause> read() {
        try {
            List<Clause> clauses = new ArrayList<>();
            clauses.add(clause());
            while (is(";")) {
                at++;
                if (clauses.size() == 12) throw new Fault();
                clauses.add(clause());
            }
            if (!is("")) throw new Fault();
            return clauses;
        } catch (Fault e) {
            fault = tokens.get(at).place();
            return null;
        }
    }

    private String now() {
        return tokens.get(at).text();
    }

    private boolean is(String s) {
        return now().equals(s);
    }

    private void need(String s) {
        if (!is(s)) throw new Fault();
        at++;
    }

    private int number(int least, int most) {
        if (!now().matches("[0-9]+")) throw new Fault();
        java.math.BigInteger n = new java.math.BigInteger(now());
        if (n.compareTo(java.math.BigInteger.valueOf(least)) < 0 || n.compareTo(java.math.BigInteger.valueOf(most)) > 0) {
            throw new Fault();
        }
        at++;
        return n.intValue();
    }

    private int letter() {
        if (!now().matches("[a-z]")) throw new Fault();
        return tokens.get(at++).text().charAt(0) - 'a';
    }

    private Clause clause() {
        String head = now();
        if (!List.of("strike", "code", "step", "fine", "shut", "off").contains(head)) throw new Fault();
        at++;
        int a = 0;
        int b = 0;
        Tree sum = null;
        switch (head) {
            case "strike":
                a = number(0, 19);
                need("clause");
                return new Clause(head, a, number(0, 11), null, null);
            case "code":
                a = letter();
                b = KINDS.indexOf(now());
                if (b < 0) throw new Fault();
                at++;
                break;
            case "step":
            case "fine":
                a = number(0, 3);
                sum = sum();
                need(head.equals("step") ? "in" : "quick");
                b = number(1, 400);
                break;
            case "shut":
                a = letter();
                b = number(0, 3);
                break;
            default:
                break;
        }
        Tree test = null;
        if (is("if")) {
            at++;
            test = test();
        }
        return new Clause(head, a, b, sum, test);
    }

    private Tree test() {
        Tree t = both();
        while (is("or")) {
            at++;
            Tree left = t;
            Tree right = both();
            t = asked -> left.of(asked) == 1 ? 1 : right.of(asked);
        }
        return t;
    }

    private Tree both() {
        Tree t = plain();
        while (is("and")) {
            at++;
            Tree left = t;
            Tree right = plain();
            t = asked -> left.of(asked) == 0 ? 0 : right.of(asked);
        }
        return t;
    }

    private Tree plain() {
        if (is("not")) {
            at++;
            Tree t = plain();
            return asked -> 1 - t.of(asked);
        }
        if (is("(")) {
            if (++open > 8) throw new Fault();
            at++;
            Tree t = test();
            need(")");
            open--;
            return t;
        }
        if (TEST_WORDS.contains(now())) return leaf();
        Tree left = sum();
        String op = now();
        if (!List.of("<", ">", "=").contains(op)) throw new Fault();
        at++;
        Tree right = sum();
        return asked -> {
            int c = Long.compare(left.of(asked), right.of(asked));
            return (op.equals("<") ? c < 0 : op.equals(">") ? c > 0 : c == 0) ? 1 : 0;
        };
    }

    private Tree sum() {
        Tree t = term();
        while (is("+") || is("-")) {
            boolean plus = is("+");
            at++;
            Tree left = t;
            Tree right = term();
            t = asked -> small(plus ? left.of(asked) + right.of(asked) : left.of(asked) - right.of(asked));
        }
        return t;
    }

    private Tree term() {
        Tree t = part();
        while (is("*") || is("/")) {
            boolean times = is("*");
            at++;
            Tree left = t;
            Tree right = part();
            t = asked -> {
                long l = left.of(asked);
                long r = right.of(asked);
                if (!times && r == 0) throw new Broken();
                return small(times ? l * r : l / r);
            };
        }
        return t;
    }

    private static long small(long n) {
        if (n > 1_000_000_000L || n < -1_000_000_000L) throw new Broken();
        return n;
    }

    private Tree part() {
        if (is("[")) {
            if (++open > 8) throw new Fault();
            at++;
            Tree t = sum();
            need("]");
            open--;
            return t;
        }
        if (SUM_WORDS.contains(now())) return leaf();
        int n = number(0, 10000);
        at--;
        leaf();
        return asked -> n;
    }

    private Tree leaf() {
        if (++leaves > 50) throw new Fault();
        String w = now();
        at++;
        return asked -> asked.word(w);
    }
}
