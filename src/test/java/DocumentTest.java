import java.io.IOException;
import java.nio.file.Files;
import java.nio.file.Path;
import java.util.ArrayList;
import java.util.List;

/**
 * The document from "Terms" to "Promise 47", sentence by sentence: behind "#" stands the sentence, below it calls that
 * would answer otherwise if it did not hold. At last the sentences are held against the document itself, so that none
 * is left out and none is another one.
 */
public final class DocumentTest {
    private static final String TWO_OF_EACH = """
        new
        child(10, true, 2, 0, 0) = 0 | child(7, false, -1, 3, 4) = 1
        school() = 0 | school() = 1
        comes(0, 0, 0) = 1 | comes(1, 0, 0) = 2 | comes(0, 1, 0) = 3
        """;
    private static final String LETTERS = """
        text code a here;code l late;code m allowed;code o away;code n none
        act(0) = 0
        """;

    private final Script script = new Script("DocumentTest");
    private final List<String> sentences = new ArrayList<>();

    public static void main(String[] args) throws IOException {
        DocumentTest test = new DocumentTest();
        test.days();
        test.rolls();
        test.marks();
        test.grammar();
        test.limits();
        test.asked();
        test.sessions();
        test.steps();
        test.fines();
        test.missing();
        test.rounds();
        test.dips();
        test.keeping();
        test.told();
        test.markPromises();
        test.actPromises();
        test.stepPromises();
        test.listPromises();
        test.keepPromises();
        test.script.close();
        Check whole = new Check("DocumentTest, whether it is the whole document");
        compareWithDocument(whole, test.sentences, Files.readString(Path.of("../shared/DOC.md")));
        whole.close();
    }

    /** Each sentence must stand where the one before ended, and nothing may be left behind the last. */
    private static void compareWithDocument(Check check, List<String> sentences, String document) {
        String part = document.substring(document.indexOf("## Terms"), document.indexOf("## Not promised"));
        String plain = part.replaceAll("(?m)^## .*$", " ").replaceAll("(?m)^```.*$", " ").replaceAll("\\s+", " ").strip();
        int at = 0;
        for (String sentence : sentences) {
            boolean follows = plain.startsWith(sentence, at);
            check.due("that the document goes on with: " + sentence, follows ? 1 : 0, 1);
            at = follows ? Math.min(at + sentence.length() + 1, plain.length()) : at;
        }
        check.due("that nothing is left out: " + plain.substring(at, Math.min(at + 80, plain.length())), plain.length() - at, 0);
    }

    private void run(String lines) {
        for (String line : lines.split("\n")) {
            if (line.startsWith("# ")) {
                sentences.add(line.substring(2).strip());
            }
        }
        script.run(lines);
    }

    private void due(String call, long want) {
        script.due(call, want);
    }

    /** Whether a test is so of a mark of 40 minutes by school 1 of child 0 (a carer, born 10 years ago, route 2) in half 29. */
    private void holds(String test, boolean so) {
        script.run(TWO_OF_EACH).run("mark(1, 0, 29, 0, 40, 0) = 0");
        script.put("code a here if " + test).due("act(0)", 0).due("tells(1, 0, 29, 0, 3)", so ? 0 : 4);
    }

    private void days() {
        run("""
            # I. DAYS 0 .. 399; a DAY's rest by 7 is its weekday (5, 6: no school), its seventh its WEEK.
            new
            child(10, true, 2, 0, 0) = 0 | school() = 0
            comes(0, 0, -1) = -1 | comes(0, 0, 400) = -1 | comes(0, 0, 0) = 1
            isOn(0, 0, 399) = 1 | isOn(0, 0, 400) = -1 | isOn(0, 0, -1) = -1
            mark(0, 0, 8, 0, 0, 0) = 0 | mark(0, 0, 9, 0, 0, 0) = 1 | mark(0, 0, 10, 0, 0, 0) = -3 | mark(0, 0, 11, 0, 0, 0) = -3
            mark(0, 0, 12, 0, 0, 0) = -3 | mark(0, 0, 13, 0, 0, 0) = -3 | mark(0, 0, 14, 0, 0, 0) = 2 | mark(0, 0, 798, 0, 0, 0) = 3
            text code a late if week = 57;code a away if week = 0
            act(0) = 0
            tells(0, 0, 8, 0, 3) = 3 | tells(0, 0, 14, 0, 3) = 4 | tells(0, 0, 798, 0, 3) = 1
            # HALVES 0 .. 799: 2 times the DAY, and 0 in the morning, 1 behind noon.
            mark(0, 0, -1, 0, 0, 0) = -1 | mark(0, 0, 800, 0, 0, 0) = -1 | mark(0, 0, 799, 0, 0, 0) = 4
            text code a here if half = 0;code a allowed if half = 1
            act(0) = 1
            tells(0, 0, 8, 0, 3) = 0 | tells(0, 0, 9, 0, 3) = 2 | tells(0, 0, 798, 0, 3) = 0 | tells(0, 0, 799, 0, 3) = 2
            # CHILDREN 0 .. 39 (40 at most): BORN so many YEARS ago (3 .. 18), CARER or not, a ROUTE 0 .. 7 (or none), a PLACE (x, y; 0 .. 99 each).
            new
            child(2, false, 0, 0, 0) = -1 | child(19, false, 0, 0, 0) = -1 | child(3, false, 0, 0, 99) = 0 | child(18, true, 7, 99, 0) = 1
            child(9, true, -1, 0, 0) = 2 | child(9, true, -2, 0, 0) = -1 | child(9, true, 8, 0, 0) = -1 | child(9, true, 0, -1, 0) = -1
            child(9, true, 0, 100, 0) = -1 | child(9, true, 0, 0, -1) = -1 | child(9, true, 0, 0, 100) = -1
            """);
        for (int i = 3; i < 40; i++) {
            due("child(10, false, -1, 0, 0)", i);
        }
        run("""
            child(10, false, -1, 0, 0) = -5 | child(2, false, -1, 0, 0) = -1 | count(0) = 40
            # SCHOOLS 0 .. 4 (5 at most).
            school() = 0 | school() = 1 | school() = 2 | school() = 3 | school() = 4 | school() = -5 | count(1) = 5
            # A SCHOOL is SHUT on a DAY if it was told so.
            comes(0, 0, 0) = 1 | comes(0, 1, 0) = 2 | shut(0, 1) = 0
            mark(0, 0, 2, 0, 0, 0) = -3 | mark(0, 0, 3, 0, 0, 0) = -3 | mark(0, 0, 1, 0, 0, 0) = 0 | mark(0, 0, 4, 0, 0, 0) = 1
            mark(1, 0, 2, 0, 0, 0) = 2
            # REFUSED by: -1 a number that can't be; -2 there is no such CHILD, SCHOOL, MARK, IMAGE; -3 it can't be by what stands; -4 twice; -5 no room; -6 a TEXT that can't be. The first of these in that order.
            new
            comes(0, 0, 400) = -1 | comes(0, 0, 0) = -2 | appeal(0, 26, 0) = -1 | appeal(0, 0, 0) = -2 | back(0) = -2 | back(2) = -1
            child(10, false, -1, 0, 0) = 0 | school() = 0 | comes(0, 1, 0) = -2 | comes(1, 0, 0) = -2
            mark(0, 0, 10, 26, 0, 0) = -1 | mark(0, 1, 10, 0, 0, 0) = -2 | mark(0, 0, 10, 0, 0, 0) = -3
            shut(0, 3) = 0 | shut(0, 3) = -4 | shut(1, 3) = -2 | shut(0, 400) = -1
            record(1) = 1 | record(1) = 2 | record(1) = 3 | record(1) = 4 | record(1) = 5 | record(1) = 6 | record(1) = -5 | record(-1) = -1
            text code
            act(400) = -1 | act(0) = -6
            """);
    }

    private void rolls() {
        run("""
            # ROLLS, 120 at most: a CHILD comes on a SCHOOL's roll on a DAY; not (-3), if it is on that roll on that DAY, or was told to come on it on that DAY or a later one.
            new
            child(10, false, -1, 0, 0) = 0 | child(10, false, -1, 0, 0) = 1 | school() = 0 | school() = 1
            comes(0, 0, 10) = 1 | comes(0, 0, 10) = -3 | comes(0, 0, 9) = -3 | comes(0, 0, 11) = -3 | comes(0, 1, 10) = 2 | comes(1, 0, 10) = 3
            goes(0, 0, 20, -1) = 0 | comes(0, 0, 19) = -3 | comes(0, 0, 9) = -3 | comes(0, 0, 20) = 4
            goes(0, 0, 20, -1) = 0 | comes(0, 0, 20) = -3 | comes(0, 0, 21) = 5
            """);
        for (int entries = 6; entries <= 120; entries++) {
            due("goes(0, 0, " + (15 + entries) + ", -1)", 0);
            due("comes(0, 0, " + (16 + entries) + ")", entries);
        }
        run("""
            comes(1, 0, 10) = -3 | comes(1, 1, 10) = -5 | count(2) = 120
            # It goes off it (told once of each), on a DAY not ahead of that, whither (a SCHOOL, or NONE); it is on the roll from its first DAY up to the one ahead of that on which it goes off.
            new
            child(10, false, -1, 0, 0) = 0 | school() = 0 | school() = 1
            goes(0, 0, 5, -1) = -3 | comes(0, 0, 5) = 1 | goes(0, 0, 4, -1) = -3 | goes(0, 0, 8, -2) = -1 | goes(0, 0, 8, 2) = -1
            goes(0, 0, 8, 1) = 0 | goes(0, 0, 9, -1) = -3 | isOn(0, 0, 4) = 0 | isOn(0, 0, 5) = 1 | isOn(0, 0, 7) = 1 | isOn(0, 0, 8) = 0
            comes(0, 0, 8) = 2 | goes(0, 0, 8, -1) = 0 | isOn(0, 0, 8) = 0
            # LOST between two as of a DAY: one that has gone off a roll to a SCHOOL by then, and has not been on that SCHOOL's roll on any DAY from that on which it went off up to it.
            new
            child(10, false, -1, 0, 0) = 0 | child(10, false, -1, 0, 0) = 1 | child(10, false, -1, 0, 0) = 2 | child(10, false, -1, 0, 0) = 3
            school() = 0 | school() = 1 | school() = 2
            comes(0, 0, 0) = 1 | comes(1, 0, 0) = 2 | comes(2, 0, 0) = 3 | comes(3, 0, 0) = 4
            goes(0, 0, 10, 1) = 0 | goes(1, 0, 10, -1) = 0
            rolls(9, 2, -1) = 0 | rolls(10, 2, -1) = 1 | rolls(10, 2, 0) = 0 | rolls(399, 2, -1) = 1
            comes(0, 1, 14) = 5 | rolls(13, 2, -1) = 1 | rolls(14, 2, -1) = 0 | rolls(399, 2, -1) = 0
            goes(0, 1, 15, 2) = 0 | rolls(14, 2, -1) = 0 | rolls(15, 2, -1) = 1
            comes(2, 2, 0) = 6 | goes(2, 2, 4, -1) = 0 | goes(2, 0, 4, 2) = 0 | rolls(3, 2, -1) = 0 | rolls(4, 2, 0) = 2
            comes(3, 2, 0) = 7 | goes(3, 2, 5, -1) = 0 | goes(3, 0, 4, 2) = 0 | rolls(4, 2, -1) = 1 | rolls(5, 2, 1) = -1
            # BUSES: a ROUTE failed in a HALF.
            failed(8, 0) = -1 | failed(-1, 0) = -1 | failed(0, -1) = -1 | failed(0, 800) = -1
            failed(7, 799) = 1 | failed(7, 799) = -4 | failed(7, 798) = 2 | failed(0, 799) = 3
            """);
        spans();
    }

    private void spans() {
        run("""
            # PART: a CHILD has part days from a DAY to a DAY.
            """ + TWO_OF_EACH + """
            mark(0, 0, 2, 0, 0, 0) = 0 | mark(0, 0, 4, 0, 0, 0) = 1 | mark(0, 0, 7, 0, 0, 0) = 2 | mark(0, 0, 8, 0, 0, 0) = 3 | mark(0, 1, 4, 0, 0, 0) = 4
            text code a allowed if part;code a late if home
            act(0) = 0
            has(0, 0, 2, 3) = 1
            tells(0, 0, 2, 0, 3) = 4 | tells(0, 0, 4, 0, 3) = 2 | tells(0, 0, 7, 0, 3) = 2 | tells(0, 0, 8, 0, 3) = 4 | tells(0, 1, 4, 0, 3) = 4
            # HOME: it is taught at home from a DAY to a DAY (told so).
            has(1, 1, 0, 1) = 1 | has(0, 1, 4, 4) = 2 | has(0, 1, 3, 2) = -1 | has(0, 2, 3, 3) = -1
            tells(0, 0, 7, 0, 3) = 2 | tells(0, 0, 8, 0, 3) = 1 | tells(0, 1, 4, 0, 3) = 4
            # 60 of each at most.
            """);
        for (int i = 1; i <= 60; i++) {
            if (i > 1) {
                due("has(0, 0, 2, 3)", i);
            }
            if (i > 2) {
                due("has(0, 1, 4, 4)", i);
            }
            due("failed(3, " + i + ")", i);
        }
        run("""
            has(0, 0, 2, 3) = -5 | has(0, 1, 4, 4) = -5 | failed(3, 0) = -5 | failed(3, 1) = -4 | has(2, 0, 2, 3) = -2
            """);
    }

    private void marks() {
        run("""
            # MARKS, 400 at most: by a SCHOOL of a CHILD in a HALF a LETTER (0 a .. 25 z) and MINUTES (0 .. 300), known from a DAY on.
            """ + TWO_OF_EACH + """
            mark(0, 0, 0, -1, 0, 0) = -1 | mark(0, 0, 0, 26, 0, 0) = -1 | mark(0, 0, 0, 0, -1, 0) = -1 | mark(0, 0, 0, 0, 301, 0) = -1
            mark(0, 0, 0, 0, 0, -1) = -1 | mark(0, 0, 0, 0, 0, 400) = -1
            mark(0, 0, 0, 25, 300, 399) = 0 | tells(0, 0, 0, 398, 0) = -1 | tells(0, 0, 0, 399, 0) = 0
            tells(0, 0, 0, 399, 1) = 25 | tells(0, 0, 0, 399, 2) = 300
            """);
        for (int i = 1; i < 400; i++) {
            due("mark(0, 0, 1, 0, 0, 0)", i);
        }
        run("""
            mark(0, 0, 1, 0, 0, 0) = -5 | mark(0, 0, 10, 0, 0, 0) = -3 | count(3) = 400
            # It can't be (-3), unless that is no weekend, the SCHOOL isn't SHUT and the CHILD is on its roll on that DAY.
            new
            child(10, false, -1, 0, 0) = 0 | school() = 0 | school() = 1 | comes(0, 0, 1) = 1 | goes(0, 0, 8, -1) = 0 | shut(0, 2) = 0
            mark(0, 0, 1, 0, 0, 0) = -3 | mark(0, 0, 2, 0, 0, 0) = 0 | mark(1, 0, 2, 0, 0, 0) = -3 | mark(0, 0, 5, 0, 0, 0) = -3
            mark(0, 0, 12, 0, 0, 0) = -3 | mark(0, 0, 15, 0, 0, 0) = 1 | mark(0, 0, 16, 0, 0, 0) = -3
            # Of those by one SCHOOL of one CHILD in one HALF that are known the one told last counts; what was told ahead stays beside it.
            """ + TWO_OF_EACH + LETTERS + """
            mark(0, 0, 0, 14, 1, 5) = 0 | mark(0, 0, 0, 0, 2, 9) = 1 | mark(0, 0, 0, 11, 3, 7) = 2 | mark(1, 0, 0, 14, 4, 0) = 3 | mark(0, 1, 0, 14, 5, 0) = 4
            tells(0, 0, 0, 4, 0) = -1 | tells(0, 0, 0, 5, 0) = 0 | tells(0, 0, 0, 6, 2) = 1 | tells(0, 0, 0, 7, 0) = 2 | tells(0, 0, 0, 9, 0) = 2
            rate(0, 0, 1, 6, 1) = 2 | rate(0, 0, 1, 9, 1) = 1 | seal(0) = 5
            # APPEALS: of a MARK another LETTER that was granted, known from a DAY on (once): as known from then on it counts as told with that LETTER.
            appeal(3, 25, 3) = 0 | appeal(2, 14, 8) = 0 | appeal(2, 0, 9) = -4
            tells(0, 0, 0, 7, 1) = 11 | tells(0, 0, 0, 8, 1) = 14 | tells(0, 0, 0, 8, 3) = 3 | tells(0, 0, 0, 8, 2) = 3 | rate(0, 0, 1, 8, 1) = 1 | tells(1, 0, 0, 3, 1) = 25
            appeal(0, 12, 0) = 0 | tells(0, 0, 0, 4, 1) = -1 | tells(0, 0, 0, 5, 1) = 12 | tells(0, 0, 0, 5, 3) = 2 | tells(0, 0, 0, 7, 0) = 2
            """);
    }

    private void grammar() {
        run("""
            # II. ACTS are TEXTS, 20 at most, in force from a DAY on (told anew ones besides), on a TAPE of at most 400 bytes.
            """ + TWO_OF_EACH + """
            mark(0, 0, 6, 0, 0, 0) = 0 | mark(0, 0, 8, 0, 0, 0) = 1
            text code a here
            act(4) = 0
            tells(0, 0, 6, 0, 4) = -1 | tells(0, 0, 8, 0, 4) = 0
            text code a here
            act(3) = 1
            tells(0, 0, 6, 0, 4) = 12 | tells(0, 0, 8, 0, 4) = 12 | force(0, 0, 4) = 1
            """);
        for (int i = 2; i < 20; i++) {
            script.put("off").due("act(0)", i);
        }
        run("""
            text off
            act(0) = -5 | count(4) = 20 | force(19, 0, 4) = 1 | force(20, 0, 4) = -1
            """);
        script.put(" ".repeat(400)).due("feed(0, 0, 0, 0, 0)", -1).due("count(9)", 400);
        run("""
            # TOKENS: longest rows of letters a .. z, of digits, single other bytes, any blanks (32) between.
            """);
        script.reads("step0[1+20]*3in400if(day<7)and not carer", -1).reads("  off  ;  off  ", -1).reads("code a here", -1);
        script.reads("codea here", 0).reads("off if xpossible = 0", 7).reads("off if possibles = 0", 7).reads("o ff", 0).reads("step 0 1 0 in 4", 9).reads("off if 1 < 1 0", 13).reads("offif carer", 0);
        script.reads("off\t", 3).reads("Off", 0).reads("off if 1 = = 1", 11).reads("off\u00ff", 3);
        run("""
            # CLAUSE {";" CLAUSE}, 12 at most (FAULT at the 13th's first TOKEN).
            """);
        script.reads("off;off;off;off;off;off;off;off;off;off;off;off", -1).reads("off;off;off;off;off;off;off;off;off;off;off;off;  off", 50);
        script.reads("off;off;off;off;off;off;off;off;off;off;off;off;", 48).reads("off;", 4).reads(";off", 0).reads("off off", 4).reads("off;;off", 4);
        run("""
            # CLAUSE: "strike" NUMBER "clause" NUMBER | HEAD ["if" TEST].
            """);
        script.reads("strike 0 clause 0", -1).reads("strike 0 clause 0 if carer", 18).reads("strike 0 off", 9).reads("strike clause 0", 7);
        script.reads("strike 0 clause off", 16).reads("off if carer", -1).reads("off carer", 4).reads("off if", 6).reads("if carer", 0);
        run("""
            # HEAD: "code" LETTER KIND | "step" STEP SUM "in" NUMBER | "fine" STEP SUM "quick" NUMBER | "shut" LETTER ROLE | "off".
            """);
        script.reads("code a here", -1).reads("step 0 1 in 5", -1).reads("fine 0 1 quick 5", -1).reads("shut a 0", -1).reads("off", -1);
        script.reads("code here a", 5).reads("step 0 1 quick 5", 9).reads("fine 0 1 in 5", 9).reads("shut 0 a", 5).reads("off a", 4);
        script.reads("step 0 in 5", 7).reads("step 0 1 in [5]", 12).reads("fine 0 1 quick born", 15).reads("shut a", 6);
        run("""
            # LETTER: a TOKEN of one letter.
            """);
        script.reads("code z here", -1).reads("code zz here", 5).reads("code 1 here", 5).reads("shut q 1", -1).reads("shut qq 1", 5).reads("code A here", 5);
        run("""
            # KIND: "here" | "late" | "allowed" | "away" | "none".
            """ + TWO_OF_EACH + """
            mark(0, 0, 0, 0, 0, 0) = 0 | mark(0, 0, 1, 11, 0, 0) = 1 | mark(0, 0, 2, 12, 0, 0) = 2 | mark(0, 0, 3, 14, 0, 0) = 3 | mark(0, 0, 4, 13, 0, 0) = 4
            """ + LETTERS + """
            tells(0, 0, 0, 0, 3) = 0 | tells(0, 0, 1, 0, 3) = 1 | tells(0, 0, 2, 0, 3) = 2 | tells(0, 0, 3, 0, 3) = 3 | tells(0, 0, 4, 0, 3) = 4
            """);
        script.reads("code a there", 7).reads("code a bus", 7).reads("code a off", 7);
        run("""
            # STEP: a NUMBER 0 .. 3.
            """);
        script.reads("step 3 1 in 5", -1).reads("step 4 1 in 5", 5).reads("fine 3 1 quick 5", -1).reads("fine 4 1 quick 5", 5).reads("step born 1 in 5", 5);
        run("""
            # ROLE: a NUMBER 0 .. 3.
            """);
        script.reads("shut a 3", -1).reads("shut a 4", 7).reads("shut a b", 7);
        tests();
    }

    private void tests() {
        run("""
            # TEST: BOTH {"or" BOTH}.
            """);
        holds("part or carer", true);
        holds("part or bus or carer", true);
        holds("part or bus", false);
        holds("carer or part and part", true);
        script.reads("off if carer or", 15).reads("off if or carer", 7);
        run("""
            # BOTH: PLAIN {"and" PLAIN}.
            """);
        holds("carer and born = 10", true);
        holds("carer and part", false);
        holds("carer and not part and half = 1", true);
        holds("part and part or carer", true);
        holds("part and carer or part", false);
        script.reads("off if carer and", 16).reads("off if carer bus", 13);
        run("""
            # PLAIN: "not" PLAIN | "(" TEST ")" | "carer" | "part" | "bus" | "home" | SUM ("<" | ">" | "=") SUM.
            """);
        holds("not part", true);
        holds("not not carer", true);
        holds("not carer", false);
        holds("not part and part", false);
        holds("not carer and carer", false);
        holds("not (part and part)", true);
        holds("(carer or part) and part", false);
        holds("home", false);
        holds("bus", false);
        holds("9 < 10", true);
        holds("10 < 10", false);
        holds("10 > 10", false);
        holds("11 > 10", true);
        holds("10 = 10", true);
        holds("9 = 10", false);
        script.reads("off if (carer", 13).reads("off if carer)", 12).reads("off if [carer]", 8).reads("off if 1", 8).reads("off if (1) < 2", 9);
        script.reads("off if 1 < carer", 11).reads("off if 1 < 2 < 3", 13).reads("off if not", 10).reads("off if ()", 8);
        run("""
            # SUM: TERM {("+" | "-") TERM}.
            """);
        holds("10 - 3 - 4 = 3", true);
        holds("10 - 3 + 4 = 11", true);
        holds("2 + 3 * 4 = 14", true);
        holds("20 - 12 / 4 = 17", true);
        script.reads("off if 1 + = 1", 11).reads("off if - 1 = 1", 7).reads("step 0 1 + 2 - 3 in 5", -1);
        run("""
            # TERM: PART {("*" | "/") PART}.
            """);
        holds("100 / 5 / 2 = 10", true);
        holds("7 / 2 * 2 = 6", true);
        holds("2 * 7 / 3 = 4", true);
        script.reads("off if 1 * = 1", 11).reads("off if * 1 = 1", 7);
        run("""
            # PART: NUMBER | "[" SUM "]" | "born" | "minutes" | "half" | "day" | "week" | "school" | "away" | "possible".
            """);
        holds("[2 + 3] * 4 = 20", true);
        holds("20 - [3 - [2 - 1]] = 18", true);
        holds("born = 10 and minutes = 40 and half = 1 and day = 14 and week = 2 and school = 1", true);
        holds("away = 0 and possible = 0", true);
        script.reads("off if [1 = 1", 10).reads("off if [] = 1", 8).reads("off if (1) = 1", 9).reads("off if here = 1", 7).reads("off if [1 < 2]", 10);
    }

    private void limits() {
        run("""
            # NUMBERS to 10,000; of "strike" to 19, of its "clause" to 11; behind "in", "quick" 1 .. 400.
            """);
        script.reads("off if 10000 = 0", -1).reads("off if 10001 = 0", 7).reads("off if 0 = 99999999999999999999", 11).reads("off if 010000 = 0", -1);
        script.reads("strike 19 clause 11", -1).reads("strike 20 clause 11", 7).reads("strike 19 clause 12", 17);
        script.reads("step 0 1 in 1", -1).reads("step 0 1 in 400", -1).reads("step 0 1 in 0", 12).reads("step 0 1 in 401", 12);
        script.reads("fine 0 1 quick 1", -1).reads("fine 0 1 quick 400", -1).reads("fine 0 1 quick 0", 15).reads("fine 0 1 quick 401", 15);
        run("""
            # 50 NUMBERS and words that are PARTS or PLAINS by themselves (FAULT at the 51st), 8 brackets of both kinds within one another (FAULT at the 9th) at most.
            """);
        String fifty = "off if carer" + " or bus".repeat(25) + " or 1 < 2" + " or day = 7".repeat(11);
        script.reads(fifty, -1).reads(fifty + " or home", fifty.length() + 4).reads(fifty + ";off;step 0 1 in 3", fifty.length() + 12);
        script.reads(fifty + ";code a here;shut a 0;strike 0 clause 0", -1);
        script.reads("off if ((((((((carer))))))))", -1).reads("off if (((((((((carer)))))))))", 15);
        script.reads("off if (((([[[[1]]]] = 1))))", -1).reads("off if (((([[[[[1]]]]] = 1))))", 15).reads("off if ((((((((1 = [1]))))))))", 19);
        script.reads("step 0 [[[[[[[[1]]]]]]]] in 5", -1).reads("step 0 [[[[[[[[[1]]]]]]]]] in 5", 15);
        script.reads("off if (((carer))) and (((((((carer))))))) and [[[[[1]]]]] = [[[[[[1]]]]]]", -1);
        run("""
            # FAULT: the first TOKEN that can't go on there (the end's: the TEXT's length).
            """);
        script.reads("", 0).reads("   ", 3).reads("code", 4).reads("code   ", 7).reads("code a here if   ", 17).reads("code a here ! !", 12);
    }

    private void asked() {
        run("""
            # IN FORCE on a DAY d: of TEXTS from d or ahead of it on, from the one told last to the first: all CLAUSES that no "strike" in force of a TEXT told later strikes (TEXT a's CLAUSE b, a told ahead of it).
            new
            text off;off
            act(10) = 0
            text strike 0 clause 1;strike 1 clause 0;strike 2 clause 0;strike 0 clause 11;off
            act(20) = 1
            force(0, 0, 9) = 0 | force(0, 0, 10) = 1 | force(0, 1, 10) = 1 | force(0, 1, 19) = 1 | force(0, 1, 20) = 0 | force(0, 0, 20) = 1
            force(1, 0, 19) = 0 | force(1, 0, 20) = 1 | force(1, 4, 20) = 1
            text strike 1 clause 0
            act(30) = 2
            force(0, 1, 29) = 0 | force(1, 0, 29) = 1 | force(1, 0, 30) = 0 | force(0, 1, 30) = 1 | force(2, 0, 30) = 1
            text strike 2 clause 0
            act(40) = 3
            force(2, 0, 39) = 1 | force(2, 0, 40) = 0 | force(1, 0, 40) = 1 | force(0, 1, 40) = 0 | force(0, 1, 35) = 1
            text strike 0 clause 0
            act(0) = 4
            force(0, 0, 10) = 0 | force(0, 1, 10) = 1 | force(4, 0, 0) = 1
            # A SUM, a TEST is asked of a CHILD in a HALF: carer; part, home: it has part days, is taught at home, on that DAY; bus: its ROUTE failed in that HALF; born; half (0, 1); day; week; of a MARK minutes and school, else 0; away, possible: how many SESSIONS of it were AWAY, POSSIBLE, on DAYS of the latest 84 ahead of that DAY (by what is known; in a "code" or "shut": 0).
            """ + TWO_OF_EACH + """
            mark(1, 0, 3, 0, 40, 0) = 0 | mark(0, 1, 3, 0, 0, 0) = 1 | mark(0, 0, 2, 0, 0, 0) = 2
            text code a here if carer;code a late if bus;code a away if not carer and born = 7;code a allowed if part;code a none if home
            act(0) = 0
            tells(1, 0, 3, 0, 4) = 0 | tells(0, 0, 2, 0, 4) = 0 | tells(0, 1, 3, 0, 4) = 2
            failed(2, 3) = 1 | tells(1, 0, 3, 0, 4) = 1 | tells(0, 0, 2, 0, 4) = 0 | tells(0, 1, 3, 0, 4) = 2
            has(0, 0, 1, 1) = 1 | tells(1, 0, 3, 0, 4) = 3 | tells(0, 1, 3, 0, 4) = 2 | has(1, 1, 0, 2) = 1 | tells(1, 0, 3, 0, 4) = 3 | tells(0, 1, 3, 0, 4) = 4
            text code a late if minutes = 40 and school = 1 and half = 1 and day = 1 and week = 0
            act(0) = 1
            tells(1, 0, 3, 0, 4) = 12 | tells(0, 1, 3, 0, 4) = 4
            text off if minutes = 0 and school = 0 and half = 0 and day = 8 and week = 1 and born = 10
            act(0) = 2
            off(0, 8, 0) = 1 | off(0, 9, 0) = 0 | off(1, 8, 0) = 0
            """ + TWO_OF_EACH + LETTERS + """
            mark(0, 0, 0, 14, 0, 0) = 0 | mark(1, 0, 0, 0, 0, 0) = 1 | mark(0, 0, 2, 13, 0, 0) = 2 | mark(0, 0, 4, 14, 0, 9) = 3 | mark(0, 0, 6, 25, 0, 0) = 4
            text off if away = 1 and possible = 2;code z here if away = 0 and possible = 0;shut z 1 if away = 0 and possible = 0
            act(3) = 1
            tells(0, 0, 6, 0, 3) = 0 | sees(1, 0, 0, 6, 0) = -3
            off(0, 3, 0) = 1 | tells(0, 0, 6, 0, 3) = 0 | sees(1, 0, 0, 6, 0) = -3 | off(0, 3, 8) = 1 | off(0, 3, 9) = 0
            off(0, 4, 0) = 0
            text code z none
            act(0) = 2
            off(0, 4, 0) = 1 | off(0, 84, 0) = 1 | off(0, 85, 0) = 0 | off(0, 84, 9) = 0
            text off if away = 0 and possible = 0
            act(84) = 3
            off(0, 84, 0) = 1 | off(0, 84, 9) = 0 | off(0, 85, 0) = 1 | off(0, 86, 9) = 0 | off(0, 87, 9) = 1
            """);
        broken();
    }

    private void broken() {
        run("""
            # Beyond 1,000,000,000 either way, or divided by 0, it is BROKEN; / is cut towards 0.
            """);
        holds("10000 * 10000 * 10 > 0", true);
        holds("10000 * 10000 * 10 + 1 > 0", false);
        holds("0 - 10000 * 10000 * 10 < 0", true);
        holds("0 - 10000 * 10000 * 10 - 1 < 0", false);
        holds("[10000 * 10000 * 10 + 1] * 0 = 0", false);
        holds("10000 * 10000 * 10000 / 10000 > 0", false);
        holds("1 / 0 = 0", false);
        holds("0 / 0 = 0", false);
        holds("not 1 / 0 = 0", false);
        holds("7 / 2 = 3", true);
        holds("[0 - 7] / 2 = 0 - 3", true);
        holds("7 / [0 - 2] = 0 - 3", true);
        run("""
            # A CLAUSE HOLDS, if it is in force on the HALF's DAY, its "if" (if it has one) is so, and neither that nor its SUM is BROKEN ("or", "and" ask what stands behind only if it can still matter).
            """);
        holds("carer or 1 / 0 = 0", true);
        holds("not (part and 1 / 0 = 0)", true);
        holds("part and 1 / 0 = 0 or carer", true);
        holds("1 / 0 = 0 or carer", false);
        holds("part or 1 / 0 = 0", false);
        holds("not (carer and 1 / 0 = 0)", false);
        holds("carer and (1 / 0 = 0 or carer)", false);
        run(TWO_OF_EACH + LETTERS + """
            text step 0 1 in 1;step 0 5 / [day - 1] in 400;step 1 3 in 9
            act(1) = 1
            mark(0, 0, 0, 14, 0, 0) = 0 | mark(0, 0, 2, 14, 0, 0) = 1 | mark(0, 0, 4, 14, 0, 0) = 2
            due(0, 0, 0, 0) = 1 | due(0, 0, 2, 0) = -1 | due(0, 1, 0, 0) = 2
            # The last that HOLDS counts (TEXTS as told, CLAUSES in order).
            """ + TWO_OF_EACH + """
            mark(0, 0, 0, 0, 0, 0) = 0
            text code a here;code a late;code a away if part;code b none
            act(0) = 0
            tells(0, 0, 0, 0, 3) = 1 | tells(0, 0, 0, 0, 4) = 1
            text code a allowed;code a away if day = 9
            act(0) = 1
            tells(0, 0, 0, 0, 3) = 2 | tells(0, 0, 0, 0, 4) = 12
            text code a away if 1 / 0 = 0;code a here if part
            act(0) = 2
            tells(0, 0, 0, 0, 4) = 12
            """);
    }

    private void sessions() {
        run("""
            # KIND of a MARK as known: of the "code" of its LETTER that counts (0 here, 1 late, 2 allowed, 3 away, 4 none); without it none.
            """ + TWO_OF_EACH + LETTERS + """
            mark(0, 0, 0, 13, 0, 0) = 0 | mark(0, 0, 2, 25, 0, 0) = 1 | mark(0, 0, 4, 14, 0, 0) = 2 | appeal(2, 11, 3) = 0
            tells(0, 0, 0, 0, 3) = 4 | tells(0, 0, 0, 0, 4) = 4 | tells(0, 0, 2, 0, 3) = 4 | tells(0, 0, 2, 0, 4) = -1
            tells(0, 0, 4, 2, 3) = 3 | tells(0, 0, 4, 2, 4) = 3 | tells(0, 0, 4, 3, 3) = 1 | tells(0, 0, 4, 3, 4) = 1
            # SESSIONS of a CHILD in a HALF: MARKS that count, of all SCHOOLS; POSSIBLE are those that aren't none, AWAY those that are away.
            """ + TWO_OF_EACH + LETTERS + """
            mark(0, 0, 0, 14, 0, 0) = 0 | mark(1, 0, 0, 14, 0, 0) = 1 | mark(0, 0, 1, 13, 0, 0) = 2 | mark(1, 0, 1, 12, 0, 0) = 3 | mark(0, 1, 0, 14, 0, 0) = 4
            rate(0, 0, 0, 0, 0) = 2 | rate(0, 0, 0, 0, 1) = 2 | rate(0, 1, 1, 0, 0) = 1 | rate(0, 1, 1, 0, 1) = 0 | rate(0, 0, 1, 0, 0) = 3 | rate(0, 0, 1, 0, 1) = 2
            mark(1, 0, 1, 14, 0, 6) = 5 | rate(0, 0, 1, 5, 1) = 2 | rate(0, 0, 1, 6, 1) = 3 | rate(0, 0, 1, 6, 0) = 3
            # III. RATE of a CHILD, or of a SCHOOL, over HALVES: AWAY by POSSIBLE in lowest terms (0 by 1 without).
            rate(0, 0, 1, 0, 2) = 2 | rate(0, 0, 1, 0, 3) = 3 | rate(0, 0, 1, 6, 2) = 1 | rate(0, 0, 1, 6, 3) = 1
            dip(1, 0, 1, 0, 2) = 1 | dip(1, 0, 1, 0, 3) = 2 | dip(0, 0, 1, 0, 0) = 2 | dip(0, 0, 1, 0, 1) = 2
            mark(0, 1, 2, 0, 0, 0) = 6 | mark(0, 1, 3, 0, 0, 0) = 7 | rate(1, 2, 3, 0, 2) = 0 | rate(1, 2, 3, 0, 3) = 1 | rate(1, 2, 3, 0, 0) = 2
            rate(1, 4, 4, 0, 2) = 0 | rate(1, 4, 4, 0, 3) = 1 | dip(0, 0, 3, 0, 2) = 1 | dip(0, 0, 3, 0, 3) = 2
            """);
    }

    private void steps() {
        run("""
            # STEP s of a CHILD is DUE on the first DAY d (not ahead of a DAY told) on which it has a POSSIBLE SESSION and the "step" of s that counts for it in the DAY's first HALF tells n in k DAYS: AWAY SESSIONS of the DAYS d - k + 1 .. d are at least n (n above 0).
            """ + TWO_OF_EACH + LETTERS + """
            text step 0 2 in 3;step 1 1 in 400;step 2 0 in 5;step 3 1 in 5;step 3 2 in 5 if half = 1
            act(0) = 1
            mark(0, 0, 0, 14, 0, 0) = 0 | mark(0, 0, 4, 14, 0, 0) = 1 | mark(0, 0, 6, 0, 0, 0) = 2 | mark(0, 0, 8, 14, 0, 20) = 3
            mark(0, 0, 14, 13, 0, 0) = 4 | mark(0, 0, 16, 0, 0, 30) = 5 | mark(1, 0, 0, 14, 0, 40) = 6
            due(0, 0, 0, 0) = 2 | due(0, 0, 3, 0) = -1 | due(0, 0, 3, 20) = 4 | due(0, 0, 5, 20) = -1 | due(0, 0, 5, 30) = -1
            due(0, 1, 5, 20) = -1 | due(0, 1, 5, 30) = 8 | due(0, 2, 0, 30) = -1 | due(0, 3, 0, 30) = 0
            due(0, 0, 0, 39) = 2 | due(0, 0, 0, 40) = 0 | due(1, 0, 0, 40) = -1
            mark(0, 1, 798, 14, 0, 0) = 7 | mark(0, 1, 799, 14, 0, 0) = 8 | mark(0, 1, 6, 12, 0, 0) = 9 | mark(0, 1, 7, 12, 0, 0) = 10 | due(1, 0, 0, 0) = 399 | due(1, 0, 399, 0) = 399
            # TAKEN on a DAY (each STEP of a CHILD once; 0 first, the next ones not ahead of the one before): it can't be (-3), unless the one before was TAKEN, and it is DUE by that DAY, reckoned from the DAY behind that on which the one before was TAKEN on (of 0 from DAY 0), as known on that DAY.
            take(0, 1, 20) = -3 | take(0, 0, 1) = -3 | take(0, 0, 3) = 0 | take(0, 0, 3) = -4 | take(0, 0, 1) = -3
            take(0, 1, 2) = -3 | take(0, 1, 3) = -3 | take(0, 1, 8) = -3 | take(0, 1, 19) = -3 | take(0, 1, 20) = 0
            take(0, 2, 399) = -3 | take(0, 3, 399) = -3
            take(1, 0, 398) = -3 | take(1, 0, 399) = 0 | take(1, 1, 399) = -3
            # STANDS as known on a DAY k: it was TAKEN by k, and it was so DUE by what is known on k (and the one before STANDS).
            stands(0, 0, 2) = 0 | stands(0, 0, 3) = 1 | stands(0, 1, 19) = 0 | stands(0, 1, 20) = 1 | stands(0, 2, 399) = 0
            appeal(1, 0, 25) = 0 | stands(0, 0, 24) = 1 | stands(0, 1, 24) = 1 | stands(0, 0, 25) = 0 | stands(0, 1, 25) = 0
            due(0, 1, 4, 25) = 4 | stands(0, 0, 39) = 0 | stands(0, 0, 40) = 1 | stands(0, 1, 40) = 1
            stands(1, 0, 398) = 0 | stands(1, 0, 399) = 1 | stands(1, 1, 399) = 0 | appeal(8, 0, 399) = 0 | stands(1, 0, 399) = 0 | stands(0, 0, 399) = 1
            """ + TWO_OF_EACH + LETTERS + """
            text step 0 1 in 1
            act(0) = 1
            mark(0, 0, 0, 14, 0, 0) = 0 | take(0, 0, 0) = 0 | stands(0, 0, 0) = 1 | stands(0, 0, 399) = 1
            """);
    }

    private void fines() {
        run("""
            # FINE of a CHILD for a STEP that was TAKEN: the "fine" of it that counts for it in the first HALF of the DAY on which it was TAKEN (as known on that DAY), at least 0; PAID on a DAY (once of each; all at once): if that is within the DAYS told behind "quick" from the one on which it was TAKEN on, a half of it, cut, is all.
            """ + TWO_OF_EACH + LETTERS + """
            text step 0 1 in 5;step 1 1 in 5;step 2 1 in 5;fine 0 51 + away * 10 quick 3;fine 1 day - 100 quick 9;fine 2 999 quick 1 if half = 1
            act(0) = 1
            mark(0, 0, 0, 14, 0, 0) = 0 | mark(0, 0, 2, 14, 0, 0) = 1 | mark(0, 0, 4, 14, 0, 9) = 2 | mark(0, 0, 6, 14, 0, 0) = 3 | mark(0, 0, 14, 14, 0, 0) = 4
            mark(1, 0, 0, 14, 0, 3) = 5
            take(0, 0, 2) = 0 | fine(0, 0, 2, 0) = 71 | fine(0, 0, 399, 0) = 71 | fine(0, 0, 1, 0) = -1 | fine(1, 0, 399, 0) = -1 | image(0) = 0
            pay(0, 0, 1) = -3 | pay(0, 0, 4) = 35 | pay(0, 0, 4) = -4 | pay(0, 0, 1) = -3
            take(0, 1, 4) = 0 | fine(0, 1, 4, 0) = 0 | pay(0, 1, 5) = 0 | pay(0, 1, 5) = -4 | take(0, 2, 7) = 0 | fine(0, 2, 7, 0) = 0 | image(1) = 0
            back(0) = 0 | pay(0, 0, 5) = 71 | back(0) = 0 | pay(0, 0, 2) = 35
            # OWED as known on a DAY: 0, if the STEP does not STAND, or it was PAID by then; else the FINE.
            back(1) = 0 | fine(0, 0, 2, 1) = 71 | fine(0, 0, 3, 1) = 71 | fine(0, 0, 4, 1) = 0 | back(0) = 0
            appeal(0, 0, 50) = 0 | appeal(1, 0, 50) = 0 | fine(0, 0, 399, 1) = 71 | appeal(2, 0, 50) = 0 | appeal(5, 0, 50) = 0
            fine(0, 0, 49, 1) = 71 | fine(0, 0, 50, 1) = 0 | fine(0, 0, 50, 0) = 71 | fine(0, 0, 50, 2) = 0
            # REFUND: what was PAID by then, if the STEP does not STAND, else 0.
            pay(0, 0, 60) = 71 | fine(0, 0, 59, 2) = 0 | fine(0, 0, 60, 2) = 71 | fine(0, 0, 60, 1) = 0
            back(1) = 0 | fine(0, 0, 399, 2) = 0 | appeal(0, 0, 50) = 0 | appeal(1, 0, 50) = 0 | appeal(2, 0, 50) = 0 | appeal(5, 0, 50) = 0
            fine(0, 0, 49, 2) = 0 | fine(0, 0, 50, 2) = 35
            # OFF: a CHILD's name may come off, if an "off" HOLDS for it in the DAY's first HALF.
            """ + TWO_OF_EACH + """
            text off if half = 0 and born > 8;off if half = 1
            act(6) = 0
            off(0, 6, 0) = 1 | off(0, 5, 0) = 0 | off(1, 6, 0) = 0 | off(0, 399, 0) = 1
            """);
    }

    private void missing() {
        run("""
            # IV. NO ROLL on a DAY: CHILDREN born 5 .. 16 YEARS ago, not taught at HOME then, on no roll; TWO: on more than one.
            new
            child(4, false, -1, 0, 0) = 0 | child(5, false, -1, 0, 0) = 1 | child(16, false, -1, 0, 0) = 2 | child(17, false, -1, 0, 0) = 3 | child(10, false, -1, 0, 0) = 4
            school() = 0 | school() = 1 | has(2, 1, 3, 4) = 1 | has(1, 0, 3, 4) = 1
            rolls(2, 0, -1) = 3 | rolls(2, 0, 0) = 1 | rolls(2, 0, 1) = 2 | rolls(2, 0, 2) = 4 | rolls(3, 0, -1) = 2 | rolls(3, 0, 0) = 1 | rolls(4, 0, 1) = 4 | rolls(5, 0, -1) = 3
            comes(4, 0, 6) = 1 | rolls(5, 0, -1) = 3 | rolls(6, 0, -1) = 2 | comes(4, 1, 8) = 2 | rolls(7, 1, -1) = 0 | rolls(8, 1, -1) = 1 | rolls(8, 1, 0) = 4
            comes(3, 0, 8) = 3 | comes(3, 1, 9) = 4 | rolls(9, 1, -1) = 2 | rolls(9, 1, 0) = 3 | goes(3, 0, 9, -1) = 0 | rolls(9, 1, -1) = 1
            # LAST SEEN as known: the latest HALF not behind that DAY in which it has a MARK that counts as here or late.
            """ + TWO_OF_EACH + LETTERS + """
            mark(0, 0, 0, 0, 0, 0) = 0 | mark(1, 0, 3, 11, 0, 0) = 1 | mark(0, 0, 4, 12, 0, 0) = 2 | mark(0, 0, 6, 0, 0, 9) = 3
            seen(0, 399, 8) = 3 | seen(0, 399, 9) = 6 | seen(0, 2, 9) = 3 | seen(0, 1, 0) = 3 | seen(0, 0, 0) = 0 | seen(1, 399, 399) = -1
            mark(1, 0, 3, 14, 0, 5) = 4 | seen(0, 399, 4) = 3 | seen(0, 399, 5) = 0 | appeal(4, 11, 7) = 0 | seen(0, 399, 7) = 3
            # JOINS: RECORDS of other lists, 6 at most: eight MARKS (0 .. 9 each).
            record(-1) = -1 | record(100000000) = -1 | record(0) = 1 | record(99999999) = 2 | record(0) = 3 | record(0) = 4 | record(0) = 5 | record(0) = 6 | record(0) = -5
            # MISSING, 6 at most: a CHILD with eight MARKS likewise.
            new
            child(9, false, -1, 0, 0) = 0 | child(9, false, -1, 0, 0) = 1 | child(9, false, -1, 0, 0) = 2 | child(9, false, -1, 0, 0) = 3
            child(9, false, -1, 0, 0) = 4 | child(9, false, -1, 0, 0) = 5 | child(9, false, -1, 0, 0) = 6
            missing(0, -1) = -1 | missing(0, 100000000) = -1 | missing(0, 0) = 1 | missing(6, 99999999) = 2 | missing(1, 0) = 3 | missing(2, 0) = 4
            missing(3, 0) = 5 | missing(4, 0) = 6 | missing(5, 0) = -5 | missing(4, 0) = -4 | missing(7, 0) = -2
            """);
        joins();
    }

    private void joins() {
        String two = """
            new
            child(9, false, -1, 0, 0) = 0 | child(9, false, -1, 0, 0) = 1 | child(9, false, -1, 0, 0) = 2
            """;
        run("""
            # Each RECORD may be one of the MISSING's, each MISSING has one at most; LIKE of two: how many of their MARKS are alike; below LEAST (0 .. 8) they are not joined.
            """ + two + """
            missing(0, 11111111) = 1 | missing(1, 11111112) = 2 | record(11111111) = 1
            join(0) = 8 | joined(0) = 0 | joined(1) = -1 | judge(8, 0) = -1 | judge(1, 0) = 8 | judge(7, 0) = 7 | judge(7, 7) = 7 | judge(7, 8) = -1
            join(-1) = -1 | join(9) = -1 | join(8) = 8
            """ + two + """
            missing(0, 1) = 1 | record(10000000) = 1 | record(0) = 2 | join(0) = 7 | joined(0) = 1 | join(7) = 7 | join(8) = 0 | joined(0) = -1
            # BEST: the most LIKE together; of alike ones the most joined; then the first as rows (of each MISSING its RECORD, none behind all).
            """ + two + """
            missing(0, 11112222) = 1 | missing(1, 33113339) = 2 | record(11112229) = 1 | record(11992222) = 2
            join(0) = 9 | joined(0) = 1 | joined(1) = 0 | join(4) = 7 | joined(0) = 0 | joined(1) = -1
            """ + two + """
            missing(0, 11111111) = 1 | missing(1, 22222222) = 2 | record(33333333) = 1 | record(11111111) = 2
            join(0) = 8 | joined(0) = 1 | joined(1) = 0 | join(1) = 8 | joined(0) = 1 | joined(1) = -1
            """ + two + """
            missing(0, 11111111) = 1 | missing(1, 11111111) = 2 | record(11111111) = 1 | join(0) = 8 | joined(0) = 0 | joined(1) = -1
            record(11111111) = 2 | join(0) = 16 | joined(0) = 0 | joined(1) = 1
            # RIVALS: in how many ways as good (LIKE and joined).
            joined(-1) = 2 | missing(2, 11111111) = 3 | join(0) = 16 | joined(-1) = 6 | record(11111111) = 3 | join(0) = 24 | joined(-1) = 6
            """ + two + """
            join(0) = 0 | joined(-1) = 1 | missing(0, 11111111) = 1 | record(22222222) = 1 | join(0) = 0 | joined(0) = 0 | joined(-1) = 1
            new
            child(9, false, -1, 0, 0) = 0 | child(9, false, -1, 0, 0) = 1 | child(9, false, -1, 0, 0) = 2 | child(9, false, -1, 0, 0) = 3 | child(9, false, -1, 0, 0) = 4 | child(9, false, -1, 0, 0) = 5
            missing(0, 0) = 1 | missing(1, 11111111) = 2 | missing(2, 22222222) = 3 | missing(3, 33333333) = 4 | missing(4, 44444444) = 5 | missing(5, 55555555) = 6
            record(55555555) = 1 | record(44444444) = 2 | record(33333333) = 3 | record(22222222) = 4 | record(11111111) = 5
            join(1) = 40 | joined(0) = -1 | joined(1) = 4 | joined(5) = 0 | joined(-1) = 1 | join(0) = 40 | joined(0) = -1 | joined(-1) = 1
            record(0) = 6 | join(0) = 48 | joined(0) = 5 | joined(1) = 4 | joined(2) = 3 | joined(3) = 2 | joined(4) = 1 | joined(5) = 0 | joined(-1) = 1 | judge(22875, 8) = 48
            """ + two + """
            missing(0, 99999999) = 1 | missing(1, 11111111) = 2 | record(11111111) = 1 | join(5) = 8 | joined(0) = -1 | joined(1) = 0
            # CAN'T BE as known: MARKS that count, here or late, of a CHILD that has another such one of another SCHOOL in that HALF; or whose ROUTE failed in that HALF, and that has MINUTES 0 and here.
            """ + TWO_OF_EACH + LETTERS + """
            mark(0, 0, 0, 0, 9, 0) = 0 | mark(1, 0, 0, 11, 9, 6) = 1 | mark(1, 0, 2, 0, 9, 0) = 2 | mark(0, 0, 2, 14, 9, 0) = 3 | mark(0, 1, 2, 0, 9, 0) = 4
            cannot(0, 799, 5, -1) = 0 | cannot(0, 799, 6, -1) = 2 | cannot(0, 799, 6, 0) = 0 | cannot(0, 799, 6, 1) = 1
            mark(1, 0, 0, 14, 9, 8) = 5 | cannot(0, 799, 7, -1) = 2 | cannot(0, 799, 8, -1) = 0
            failed(2, 4) = 1 | failed(2, 6) = 2 | failed(2, 8) = 3
            mark(0, 0, 4, 0, 0, 0) = 6 | mark(0, 0, 6, 11, 0, 0) = 7 | mark(0, 0, 8, 0, 1, 0) = 8 | mark(0, 1, 4, 0, 0, 0) = 9 | mark(0, 0, 5, 0, 0, 0) = 10
            cannot(0, 799, 0, -1) = 1 | cannot(0, 799, 0, 0) = 6
            """);
    }

    private void rounds() {
        run("""
            # V. ROUNDS: VISITS, 9 at most: a CHILD, MINUTES at the door (1 .. 200), WORTH (1 .. 1000).
            new
            child(9, false, -1, 10, 0) = 0 | child(9, false, -1, 0, 10) = 1 | child(9, false, -1, 10, 10) = 2
            visit(0, 0, 1) = -1 | visit(0, 201, 1) = -1 | visit(0, 1, 0) = -1 | visit(0, 1, 1001) = -1 | visit(3, 1, 1) = -2
            visit(0, 1, 1) = 1 | visit(0, 200, 1000) = 2 | visit(0, 1, 1) = 3 | visit(0, 1, 1) = 4 | visit(0, 1, 1) = 5
            visit(0, 1, 1) = 6 | visit(0, 1, 1) = 7 | visit(0, 1, 1) = 8 | visit(0, 1, 1) = 9 | visit(0, 1, 1) = -5
            # From an office (x, y) and back within n minutes (ways: x and y apart together, a minute each): the VISITS of the greatest WORTH together; of alike ones the fewest minutes at the best order, then the lowest bits.
            round(10, 0, 8, 0) = 509 | round(10, 0, 2000, 1) = 1008 | round(10, 0, 207, 0) = 255 | round(10, 0, 207, 1) = 1007 | round(10, 0, 200, 0) = 2
            new
            child(9, false, -1, 10, 0) = 0 | child(9, false, -1, 0, 10) = 1 | child(9, false, -1, 10, 10) = 2
            visit(0, 5, 10) = 1 | visit(1, 5, 10) = 2 | visit(2, 5, 30) = 3
            round(0, 0, 55, 0) = 7 | round(0, 0, 55, 1) = 50 | round(0, 0, 55, 2) = 55 | round(0, 0, 2000, 2) = 55
            round(0, 0, 54, 0) = 5 | round(0, 0, 54, 1) = 40 | round(0, 0, 54, 2) = 50 | round(0, 0, 49, 0) = 4 | round(0, 0, 49, 2) = 45
            round(0, 0, 44, 0) = 1 | round(0, 0, 25, 0) = 1 | round(0, 0, 24, 0) = 0 | round(0, 0, 24, 1) = 0 | round(0, 0, 24, 2) = 0
            visit(0, 1, 10) = 4 | round(0, 0, 25, 0) = 8 | round(0, 0, 25, 1) = 10 | round(0, 0, 25, 2) = 21 | round(0, 0, 26, 0) = 9
            """);
    }

    private void dips() {
        run("""
            # DIPS in a WEEK as known: LOOKED at are all SCHOOLS with POSSIBLE SESSIONS in it.
            new
            child(10, false, -1, 0, 0) = 0 | child(10, false, -1, 0, 0) = 1 | child(10, false, -1, 0, 0) = 2
            school() = 0 | school() = 1 | school() = 2
            comes(0, 0, 0) = 1 | comes(1, 1, 0) = 2 | comes(2, 2, 0) = 3
            """ + LETTERS + """
            mark(0, 0, 14, 14, 0, 0) = 0 | mark(1, 1, 23, 0, 0, 5) = 1 | mark(2, 2, 14, 13, 0, 0) = 2 | mark(2, 2, 8, 0, 0, 0) = 3 | mark(2, 2, 28, 0, 0, 0) = 4
            dips(1, 0, 1, 1) = 1 | dips(1, 5, 1, 1) = 2 | dips(0, 5, 1, 1) = 1 | dips(2, 5, 1, 1) = 1 | dips(3, 5, 1, 1) = 0
            # N POSSIBLE SESSIONS of all of them, X AWAY, n and x of one: it DIPS, if x N is above n X and (x N - n X) squared times (N - 1) is above T squared times LOOKED times n X (N - n) (N - X) (T 1 .. 20).
            mark(1, 1, 22, 0, 0, 6) = 5 | dips(1, 6, 1, 0) = 0 | mark(0, 0, 15, 14, 0, 7) = 6 | dips(1, 7, 1, 0) = 1
            dips(1, 7, 2, 0) = 0 | dips(1, 6, 0, 0) = -1 | dips(1, 6, 21, 0) = -1 | dips(1, 7, 20, 0) = 0
            mark(1, 1, 14, 0, 0, 0) = 7 | mark(1, 1, 15, 0, 0, 0) = 8 | mark(1, 1, 16, 0, 0, 0) = 9 | mark(0, 0, 16, 14, 0, 8) = 10 | mark(0, 0, 17, 14, 0, 8) = 11
            dips(1, 8, 1, 0) = 1 | dips(1, 8, 2, 0) = 0 | mark(1, 1, 17, 0, 0, 9) = 12 | dips(1, 9, 2, 0) = 1 | dips(1, 9, 3, 0) = 0
            # DRAWN, 12 at most: a CHILD that got something (1) or not (0) by lot, and how it did (-100 .. 100).
            new
            """);
        for (int i = 0; i < 13; i++) {
            due("child(9, false, -1, 0, 0)", i);
        }
        run("""
            draw(0, -1, 0) = -1 | draw(0, 2, 0) = -1 | draw(0, 0, -101) = -1 | draw(0, 0, 101) = -1 | draw(13, 0, 0) = -2
            """);
        for (int i = 0; i < 12; i++) {
            due("draw(" + i + ", " + i % 2 + ", " + (i < 6 ? -100 : 100) + ")", i + 1);
        }
        run("""
            draw(12, 0, 0) = -5 | draw(11, 0, 0) = -4 | helped(1) = 924
            # HELPED: in how many of all ways to draw as many as got it the sum of how those did is at least what it was, and of how many ways.
            helped(0) = 662
            new
            child(9, false, -1, 0, 0) = 0 | child(9, false, -1, 0, 0) = 1 | child(9, false, -1, 0, 0) = 2 | child(9, false, -1, 0, 0) = 3
            draw(0, 1, 5) = 1 | draw(1, 0, 5) = 2 | draw(2, 1, 1) = 3 | draw(3, 0, 0) = 4 | helped(0) = 3 | helped(1) = 6
            new
            child(9, false, -1, 0, 0) = 0 | child(9, false, -1, 0, 0) = 1 | child(9, false, -1, 0, 0) = 2 | child(9, false, -1, 0, 0) = 3
            draw(0, 1, 4) = 1 | draw(1, 1, -3) = 2 | draw(2, 0, 6) = 3 | draw(3, 0, 1) = 4 | helped(0) = 5 | helped(1) = 6
            new
            helped(0) = 1 | helped(1) = 1 | child(9, false, -1, 0, 0) = 0 | draw(0, 0, 7) = 1 | helped(0) = 1 | helped(1) = 1
            """);
    }

    private void keeping() {
        run("""
            # TRIED: a TEXT (the TAPE's) besides, in force from a DAY on: MARKS that count as known whose KIND it would change.
            """ + TWO_OF_EACH + LETTERS + """
            mark(0, 0, 0, 0, 0, 0) = 0 | mark(0, 0, 2, 0, 0, 0) = 1 | mark(0, 0, 3, 0, 0, 9) = 2 | mark(0, 0, 4, 14, 0, 0) = 3 | mark(0, 0, 4, 14, 0, 9) = 4
            text code a here
            beside(0, 9) = 0
            text code a late
            beside(0, 0) = 2
            text code a late
            beside(1, 9) = 2
            text strike 0 clause 3
            beside(0, 9) = 1
            tells(0, 0, 4, 9, 3) = 3 | tells(0, 0, 0, 9, 3) = 0 | count(4) = 1
            # SEALED is a DAY: its MARKS' LETTERS and MINUTES (26 times the MINUTES and the LETTER; all that were told) are kept as two sums: of all, and of all times their place from 1 on.
            """ + TWO_OF_EACH + """
            mark(0, 0, 0, 5, 1, 0) = 0 | mark(0, 0, 2, 25, 0, 0) = 1 | mark(0, 0, 0, 6, 0, 0) = 2 | mark(0, 1, 1, 7, 0, 399) = 3
            seal(0) = 3 | seal(1) = 1 | seal(5) = 0 | appeal(0, 9, 0) = 0 | found(0) = -1
            # ALTERED: that number becomes it with a mask's bits turned over (1 .. 7; the LETTER is the rest by 26 then, the MINUTES the 26th).
            alter(0, 0) = -1 | alter(0, 8) = -1 | alter(1, 7) = 30 | tells(0, 0, 2, 0, 1) = 4 | tells(0, 0, 2, 0, 2) = 1 | alter(1, 7) = 25
            tells(0, 0, 2, 0, 1) = 25 | tells(0, 0, 2, 0, 2) = 0
            # FOUND: NONE, if both sums are as they were; the MARK whose number, put right by what the first is off, sets both right; -2 there is none such, or there are more MARKS than then.
            found(0) = -1 | found(1) = -1 | alter(0, 7) = 24 | found(0) = 0 | found(1) = -1 | alter(0, 7) = 31 | found(0) = -1
            alter(2, 1) = 7 | found(0) = 2 | alter(3, 1) = 6 | found(0) = -2 | alter(2, 1) = 6 | found(0) = 3 | alter(3, 1) = 7 | found(0) = -1
            alter(0, 2) = 29 | alter(2, 1) = 7 | found(0) = -2 | alter(0, 2) = 31 | alter(3, 2) = 5 | found(0) = -2 | alter(3, 2) = 7 | alter(2, 1) = 6 | found(0) = -1
            mark(0, 0, 1, 0, 9, 0) = 4 | found(0) = -2 | seal(0) = 4 | found(0) = -1
            # IMAGES 0, 1 keep all but the TAPE, FAULT and the latest answers; BACK to one all is as it was then (IMAGES stay).
            text off;off
            act(0) = 0
            image(0) = 0 | school() = 2 | image(1) = 0 | child(10, false, -1, 0, 0) = 2 | missing(2, 5) = 1 | record(5) = 1 | join(0) = 8
            text strike 0 clause 1
            act(0) = 1 | force(0, 1, 0) = 0
            text code x
            act(0) = -6 | fault() = 6
            text off if
            back(0) = 0 | force(0, 1, 0) = 1 | count(4) = 1 | count(0) = 2 | count(1) = 2 | count(5) = 0 | count(9) = 6 | fault() = 6 | joined(0) = 0 | joined(-1) = 1
            back(1) = 0 | count(0) = 2 | count(1) = 3 | back(0) = 0 | count(1) = 2 | found(0) = -1 | tells(0, 0, 2, 0, 1) = 25
            new
            image(0) = 0
            text off
            act(3) = 0 | image(1) = 0 | back(0) = 0 | count(4) = 0 | force(0, 0, 3) = -1
            text strike 0 clause 0;off
            act(5) = 0 | force(0, 1, 5) = 1 | back(1) = 0 | force(0, 0, 3) = 1 | force(0, 1, 5) = -1
            # The constants: `NONE = -1`: There is none.
            new
            isOn(0, 0, 0) = -1 | joined(0) = -1 | fault() = -1
            """);
    }

    private void told() {
        run("""
            # `HalfDays()`: No CHILDREN, SCHOOLS, ACTS.
            new
            count(0) = 0 | count(1) = 0 | count(4) = 0 | isOn(0, 0, 0) = -1 | force(0, 0, 0) = -1 | status() = 0
            # `int child(int born, boolean carer, int route, int x, int y)`: A CHILD (route NONE: none): its number. -1; -5.
            child(10, true, 7, 99, 99) = 0 | child(10, false, -1, 0, 0) = 1 | child(10, false, -2, 0, 0) = -1 | status() = -1 | count(0) = 2
            # `int school()`: A SCHOOL: its number. -5.
            school() = 0 | status() = 0 | school() = 1 | count(1) = 2
            # `int shut(int school, int day)`: A SCHOOL is SHUT on a DAY: 0. -1; -2; -4.
            shut(0, 0) = 0 | shut(0, 0) = -4 | status() = -4 | shut(1, 0) = 0 | shut(0, 399) = 0 | shut(2, 0) = -2 | shut(-1, 0) = -2 | shut(2, 400) = -1 | shut(0, -1) = -1
            # `int comes(int child, int school, int day)`: A CHILD comes on a roll: how many ROLLS there are. -1; -2; -3; -5.
            comes(0, 0, 3) = 1 | comes(0, 1, 3) = 2 | comes(1, 0, 3) = 3 | comes(1, 0, 5) = -3 | status() = -3 | comes(2, 0, 3) = -2 | comes(0, 2, 3) = -2 | comes(2, 2, 400) = -1
            # `int goes(int child, int school, int day, int whither)`: It goes off a roll (its latest of that SCHOOL): 0. -1 (whither, too); -2; -3 it is on none that was not told so, or a DAY ahead of its first one.
            goes(1, 1, 9, -1) = -3 | goes(1, 0, 2, -1) = -3 | goes(1, 0, 9, 2) = -1 | goes(1, 0, 400, -1) = -1 | goes(2, 0, 9, -1) = -2 | goes(1, 2, 9, -1) = -2
            goes(1, 0, 9, 1) = 0 | goes(1, 0, 9, 1) = -3 | comes(1, 0, 20) = 4 | goes(1, 0, 19, -1) = -3 | goes(1, 0, 30, -1) = 0
            # `int isOn(int child, int school, int day)`: Whether a CHILD is on a SCHOOL's roll on a DAY: 1, 0; NONE.
            isOn(1, 0, 2) = 0 | isOn(1, 0, 3) = 1 | isOn(1, 0, 8) = 1 | isOn(1, 0, 9) = 0 | isOn(1, 0, 20) = 1 | isOn(1, 0, 29) = 1 | isOn(1, 0, 30) = 0
            isOn(1, 1, 3) = 0 | isOn(2, 0, 3) = -1 | isOn(1, 2, 3) = -1 | isOn(1, 0, 400) = -1 | isOn(-1, 0, 3) = -1
            # `int failed(int route, int half)`: A ROUTE failed in a HALF: how many were told. -1; -4; -5.
            failed(0, 5) = 1 | failed(0, 6) = 2 | failed(0, 5) = -4 | status() = -4 | failed(8, 5) = -1 | failed(0, 800) = -1
            # `int has(int child, int what, int from, int to)`: PART days (what 0), HOME (1) of a CHILD from a DAY to a DAY: how many of that were told. -1; -2; -5.
            has(0, 0, 3, 3) = 1 | has(0, 0, 3, 3) = 2 | has(0, 1, 0, 399) = 1 | has(0, 2, 3, 3) = -1 | has(0, -1, 3, 3) = -1 | has(0, 0, 4, 3) = -1
            has(0, 0, -1, 3) = -1 | has(0, 0, 3, 400) = -1 | has(2, 0, 3, 3) = -2 | status() = -2
            """);
    }

    private void markPromises() {
        run("""
            # `int mark(int school, int child, int half, int letter, int minutes, int known)`: A MARK: its number. -1; -2; -3; -5.
            """ + TWO_OF_EACH + """
            mark(0, 0, 0, 3, 7, 2) = 0 | mark(1, 1, 0, 3, 7, 2) = -3 | status() = -3 | mark(2, 0, 0, 3, 7, 2) = -2 | mark(0, 2, 0, 3, 7, 2) = -2 | mark(2, 2, 0, 3, 301, 2) = -1
            mark(0, 1, 1, 14, 0, 0) = 1
            # `int appeal(int mark, int letter, int known)`: An APPEAL was granted: 0. -1; -2; -4.
            appeal(2, 0, 0) = -2 | status() = -2 | appeal(-1, 0, 0) = -2 | appeal(0, 26, 0) = -1 | appeal(0, -1, 0) = -1 | appeal(0, 0, 400) = -1 | appeal(0, 4, 5) = 0 | appeal(0, 5, 6) = -4
            # `int tells(int school, int child, int half, int known, int what)`: Of the MARK by a SCHOOL of a CHILD in a HALF that counts as known what 0 its number, 1 LETTER, 2 MINUTES, 3 KIND, 4 the CLAUSE (TEXT times 12 and CLAUSE; NONE). NONE without.
            text off;off;code e late
            act(0) = 0
            text off;code d away
            act(0) = 1
            tells(0, 0, 0, 2, 0) = 0 | tells(0, 0, 0, 2, 1) = 3 | tells(0, 0, 0, 2, 2) = 7 | tells(0, 0, 0, 2, 3) = 3 | tells(0, 0, 0, 2, 4) = 13
            tells(0, 0, 0, 5, 1) = 4 | tells(0, 0, 0, 5, 3) = 1 | tells(0, 0, 0, 5, 4) = 2 | tells(0, 1, 1, 0, 3) = 4 | tells(0, 1, 1, 0, 4) = -1
            tells(0, 0, 0, 1, 0) = -1 | tells(0, 0, 0, 2, 5) = -1 | tells(0, 0, 0, 2, -1) = -1 | tells(1, 0, 0, 2, 0) = -1 | tells(2, 0, 0, 2, 0) = -1 | tells(0, 2, 0, 2, 0) = -1 | tells(0, 0, 0, 400, 0) = -1
            # `int sees(int role, int school, int child, int half, int known)`: The LETTER, as a ROLE sees it: -3, if a "shut" of that LETTER and ROLE HOLDS; NONE without a MARK, for numbers that can't be.
            text shut d 3;shut e 2 if minutes = 7;shut o 0 if carer
            act(0) = 2
            sees(3, 0, 0, 0, 2) = -3 | sees(2, 0, 0, 0, 2) = 3 | sees(3, 0, 0, 0, 5) = 4 | sees(2, 0, 0, 0, 5) = -3 | sees(0, 0, 1, 1, 0) = 14
            sees(4, 0, 0, 0, 2) = -1 | sees(-1, 0, 0, 0, 2) = -1 | sees(3, 0, 0, 0, 1) = -1 | sees(3, 2, 0, 0, 2) = -1 | sees(3, 0, 2, 0, 2) = -1 | sees(3, 0, 0, 800, 2) = -1 | sees(3, 0, 0, 0, 400) = -1
            status() = 0
            """);
    }

    private void actPromises() {
        run("""
            # `int feed(int a, int b, int c, int d, int e)`: Twenty bytes come behind the TAPE, four of each number, the highest first: how many it has. NONE, if there would be more than 400.
            new
            """);
        for (int bytes = 20; bytes <= 400; bytes += 20) {
            due("feed(1, 2, 3, 4, 5)", bytes);
        }
        run("""
            feed(1, 2, 3, 4, 5) = -1 | count(9) = 400
            # `int end(int n)`: The TAPE has its first n bytes alone: n. NONE, if it has not so many, or n is below 0.
            end(401) = -1 | end(-1) = -1 | end(400) = 400 | end(381) = 381 | feed(1, 2, 3, 4, 5) = -1 | end(380) = 380 | feed(1, 2, 3, 4, 5) = 400 | end(0) = 0 | end(1) = -1
            text offs
            end(3) = 3 | act(0) = 0 | force(0, 0, 0) = 1
            text step 0 1 in 4001
            end(15) = 15 | act(0) = 1
            # `int act(int from)`: The TAPE, which is empty then, becomes an ACT: its number. -1; -5 (both ahead of reading it); -6 (blanks alone: FAULT at the end).
            feed(1868981792, 538976288, 538976288, 538976288, 538976288) = 20 | act(400) = -1 | status() = -1 | act(-1) = -1 | count(9) = 20 | act(0) = 2 | status() = 0 | count(9) = 0
            feed(538976288, 538976288, 538976288, 538976288, 538976288) = 20 | act(0) = -6 | status() = -6 | fault() = 20 | count(9) = 0 | act(0) = -6 | fault() = 0
            # `int fault()`: FAULT of the latest act(), beside() that read a TEXT: its place; NONE without.
            text off off
            act(400) = -1 | fault() = 0 | beside(400, 0) = -1 | fault() = 0 | act(0) = -6 | fault() = 4
            text off
            act(0) = 3 | fault() = -1
            text code a bus
            beside(0, 0) = -1 | fault() = 7
            text off
            beside(0, 0) = 0 | fault() = -1
            # `int force(int text, int clause, int day)`: Whether a CLAUSE is IN FORCE on a DAY: 1, 0; NONE.
            text off;off
            act(7) = 4
            force(4, 1, 7) = 1 | force(4, 1, 6) = 0 | force(4, 2, 7) = -1 | force(4, -1, 7) = -1 | force(5, 0, 7) = -1 | force(-1, 0, 7) = -1 | force(4, 0, 400) = -1 | force(4, 0, -1) = -1
            # `int rate(int child, int from, int to, int known, int what)`: SESSIONS of a CHILD in HALVES from .. to as known: POSSIBLE (what 0), AWAY (1); RATE's upper (2), lower number (3). NONE.
            """ + TWO_OF_EACH + LETTERS + """
            mark(0, 0, 2, 14, 0, 0) = 0 | mark(1, 0, 3, 14, 0, 0) = 1 | mark(0, 0, 4, 0, 0, 5) = 2 | mark(0, 0, 6, 12, 0, 0) = 3 | mark(0, 1, 2, 14, 0, 0) = 4
            rate(0, 2, 6, 5, 0) = 4 | rate(0, 2, 6, 5, 1) = 2 | rate(0, 2, 6, 5, 2) = 1 | rate(0, 2, 6, 5, 3) = 2 | rate(0, 2, 6, 4, 0) = 3 | rate(0, 3, 5, 5, 0) = 2 | rate(0, 2, 2, 5, 0) = 1
            rate(2, 2, 6, 5, 0) = -1 | rate(0, -1, 6, 5, 0) = -1 | rate(0, 2, 800, 5, 0) = -1 | rate(0, 6, 5, 5, 0) = -1 | rate(0, 2, 6, 400, 0) = -1 | rate(0, 2, 6, 5, 4) = -1 | rate(0, 2, 6, 5, -1) = -1
            # `int dip(int school, int from, int to, int known, int what)`: The same of a SCHOOL. NONE.
            dip(0, 2, 6, 5, 0) = 4 | dip(0, 2, 6, 5, 1) = 2 | dip(0, 2, 6, 4, 2) = 2 | dip(0, 2, 6, 4, 3) = 3 | dip(1, 0, 799, 0, 0) = 1 | dip(1, 0, 799, 0, 3) = 1
            dip(2, 2, 6, 5, 0) = -1 | dip(-1, 2, 6, 5, 0) = -1 | dip(0, 6, 5, 5, 0) = -1 | dip(0, 2, 800, 5, 0) = -1 | dip(0, 2, 6, -1, 0) = -1 | dip(0, 2, 6, 5, 4) = -1
            """);
    }

    private void stepPromises() {
        run("""
            # `int due(int child, int step, int from, int known)`: The DAY on which a STEP of a CHILD is DUE, not ahead of a DAY, as known; NONE.
            """ + TWO_OF_EACH + LETTERS + """
            text step 0 1 in 1;step 1 2 in 9;fine 0 41 quick 2;fine 1 7 quick 400;off if away > 1
            act(0) = 1
            mark(0, 0, 2, 14, 0, 0) = 0 | mark(0, 0, 6, 14, 0, 4) = 1 | mark(0, 1, 2, 14, 0, 0) = 2
            due(0, 0, 0, 0) = 1 | due(0, 0, 1, 0) = 1 | due(0, 0, 2, 3) = -1 | due(0, 0, 2, 4) = 3 | due(0, 1, 0, 3) = -1 | due(0, 1, 0, 4) = 3 | due(0, 2, 0, 4) = -1
            due(2, 0, 0, 0) = -1 | due(0, 4, 0, 0) = -1 | due(0, -1, 0, 0) = -1 | due(0, 0, 400, 0) = -1 | due(0, 0, -1, 0) = -1 | due(0, 0, 0, 400) = -1
            # `int take(int child, int step, int day)`: A STEP is TAKEN on a DAY: 0. -1; -2; -3; -4.
            take(0, 4, 1) = -1 | take(0, -1, 1) = -1 | take(0, 0, 400) = -1 | take(2, 0, 1) = -2 | status() = -2 | take(2, 4, 1) = -1
            take(0, 0, 0) = -3 | take(0, 1, 4) = -3 | take(0, 0, 2) = 0 | status() = 0 | take(0, 0, 2) = -4 | status() = -4 | take(0, 1, 3) = -3 | take(0, 1, 5) = 0
            # `int stands(int child, int step, int known)`: Whether a STEP STANDS as known: 1, 0 (not TAKEN, too); NONE.
            stands(0, 0, 1) = 0 | stands(0, 0, 2) = 1 | stands(0, 1, 4) = 0 | stands(0, 1, 5) = 1 | stands(0, 2, 399) = 0 | stands(1, 0, 399) = 0
            stands(2, 0, 5) = -1 | stands(0, 4, 5) = -1 | stands(0, 0, 400) = -1 | stands(0, 0, -1) = -1
            # `int pay(int child, int step, int day)`: A FINE is PAID on a DAY: what was PAID (a half, if it is quick; 0, if there is none). -1; -2; -3 the STEP was not TAKEN by then; -4.
            pay(0, 4, 5) = -1 | pay(0, 0, 400) = -1 | pay(2, 0, 5) = -2 | pay(0, 0, 1) = -3 | pay(0, 2, 5) = -3 | pay(1, 0, 5) = -3 | status() = -3 | image(0) = 0
            pay(0, 0, 3) = 20 | status() = 0 | pay(0, 0, 3) = -4 | status() = -4 | pay(0, 1, 399) = 3 | back(0) = 0 | pay(0, 0, 4) = 41
            # `int fine(int child, int step, int known, int what)`: FINE (what 0), OWED (1), REFUND (2) as known on a DAY. NONE (the STEP was not TAKEN by that DAY, too).
            fine(0, 0, 2, 0) = 41 | fine(0, 0, 3, 1) = 41 | fine(0, 0, 4, 1) = 0 | fine(0, 0, 4, 2) = 0 | fine(0, 1, 5, 1) = 7 | appeal(0, 0, 6) = 0
            fine(0, 0, 6, 0) = 41 | fine(0, 0, 5, 2) = 0 | fine(0, 0, 6, 2) = 41 | fine(0, 1, 6, 1) = 0 | fine(0, 1, 6, 2) = 0
            fine(0, 0, 1, 0) = -1 | fine(0, 1, 4, 0) = -1 | fine(0, 2, 9, 0) = -1 | fine(2, 0, 9, 0) = -1 | fine(0, 4, 9, 0) = -1 | fine(0, 0, 400, 0) = -1 | fine(0, 0, 9, 3) = -1 | fine(0, 0, 9, -1) = -1
            # `int off(int child, int day, int known)`: Whether a CHILD's name may come OFF on a DAY as known: 1, 0; NONE.
            off(0, 4, 4) = 1 | off(0, 4, 3) = 0 | off(0, 3, 4) = 0 | off(0, 4, 6) = 0 | off(1, 4, 4) = 0 | off(2, 4, 4) = -1 | off(0, 400, 4) = -1 | off(0, 4, 400) = -1
            # `int rolls(int day, int what, int i)`: On a DAY on NO ROLL (what 0), on TWO (1), LOST (2): how many (i NONE), the i-th CHILD. NONE.
            child(9, false, -1, 0, 0) = 2 | goes(1, 0, 8, 1) = 0 | rolls(7, 0, -1) = 1 | rolls(7, 0, 0) = 2 | rolls(7, 0, 1) = -1 | rolls(8, 0, -1) = 2 | rolls(8, 0, 0) = 1 | rolls(8, 0, 1) = 2
            rolls(8, 1, -1) = 1 | rolls(8, 1, 0) = 0 | rolls(8, 2, -1) = 1 | rolls(8, 2, 0) = 1 | rolls(8, 2, 1) = -1 | rolls(8, 2, -2) = -1 | rolls(8, 3, -1) = -1 | rolls(8, -1, -1) = -1 | rolls(400, 0, -1) = -1
            # `int seen(int child, int day, int known)`: LAST SEEN of a CHILD by a DAY as known: the HALF; NONE.
            seen(0, 9, 5) = -1 | seen(0, 9, 6) = 2 | seen(0, 0, 6) = -1 | seen(0, 1, 6) = 2 | seen(3, 9, 6) = -1 | seen(0, 400, 6) = -1 | seen(0, 9, 400) = -1 | seen(0, -1, 6) = -1
            """);
    }

    private void listPromises() {
        run("""
            # `int record(int marks)`: A RECORD (eight figures, the first highest; 0 .. 99,999,999): how many there are. -1; -5.
            new
            joined(-1) = -1 | joined(0) = -1
            child(9, false, -1, 0, 0) = 0 | child(9, false, -1, 4, 0) = 1
            record(99999999) = 1 | record(12345678) = 2 | record(100000000) = -1 | status() = -1 | record(-1) = -1 | count(5) = 2
            # `int missing(int child, int marks)`: A CHILD is MISSING with such MARKS: how many are. -1; -2; -4; -5.
            missing(1, 12345600) = 1 | missing(1, 0) = -4 | status() = -4 | missing(2, 0) = -2 | missing(2, -1) = -1 | missing(0, 99990000) = 2 | count(6) = 2
            # `int join(int least)`: BEST JOIN with LEAST, kept as the latest: LIKE together. NONE for LEAST that can't be.
            join(0) = 10 | join(5) = 6 | join(7) = 0 | join(-1) = -1 | join(9) = -1 | join(8) = 0
            # `int joined(int i)`: The RECORD of the i-th MISSING in the latest BEST (NONE none); RIVALS (i NONE). NONE.
            joined(0) = -1 | joined(-1) = 1 | join(5) = 6 | joined(0) = 1 | joined(1) = -1 | join(0) = 10 | joined(0) = 1 | joined(1) = 0 | joined(2) = -1 | joined(-2) = -1 | joined(-1) = 1
            # `int judge(int row, int least)`: LIKE together of a row (of each MISSING, the first lowest, by sevens: 0 none, else 1 and its RECORD) with LEAST; NONE, if it can't be.
            judge(9, 0) = 10 | judge(9, 4) = 10 | judge(9, 5) = -1 | judge(2, 5) = 6 | judge(15, 0) = 0 | judge(7, 0) = 4 | judge(0, 8) = 0
            judge(8, 0) = -1 | judge(3, 0) = -1 | judge(49, 0) = -1 | judge(-1, 0) = -1 | judge(0, 9) = -1 | judge(0, -1) = -1
            # `int cannot(int from, int to, int known, int i)`: MARKS that CAN'T BE in HALVES from .. to as known: how many (i NONE), the i-th. NONE.
            """ + TWO_OF_EACH + LETTERS + """
            mark(0, 0, 2, 0, 5, 0) = 0 | mark(1, 0, 2, 11, 5, 3) = 1 | failed(2, 7) = 1 | mark(0, 0, 7, 0, 0, 0) = 2
            cannot(0, 799, 3, -1) = 3 | cannot(0, 799, 3, 2) = 2 | cannot(0, 799, 3, 3) = -1 | cannot(0, 799, 2, -1) = 1 | cannot(2, 2, 3, 1) = 1 | cannot(3, 6, 3, -1) = 0 | cannot(3, 7, 3, 0) = 2
            cannot(0, 799, 3, -2) = -1 | cannot(0, 800, 3, -1) = -1 | cannot(-1, 9, 3, -1) = -1 | cannot(3, 2, 3, -1) = -1 | cannot(0, 799, 400, -1) = -1
            """ + TWO_OF_EACH + LETTERS + """
            mark(0, 0, 0, 14, 0, 0) = 0 | mark(1, 0, 0, 0, 0, 0) = 1 | mark(0, 0, 7, 0, 5, 0) = 2 | cannot(0, 799, 0, -1) = 0
            # `int visit(int child, int minutes, int worth)`: A VISIT: how many there are. -1; -2; -5.
            visit(0, 10, 20) = 1 | visit(1, 10, 30) = 2 | visit(1, 201, 30) = -1 | visit(2, 10, 30) = -2 | status() = -2 | count(7) = 2
            # `int round(int x, int y, int n, int what)`: ROUNDS from an office within n minutes (0 .. 2000): VISITS as bits (what 0), WORTH (1), minutes (2). NONE.
            round(0, 0, 34, 0) = 3 | round(0, 0, 34, 1) = 50 | round(0, 0, 34, 2) = 34 | round(0, 0, 33, 0) = 2 | round(0, 0, 33, 2) = 24 | round(0, 0, 0, 0) = 0 | round(3, 4, 10, 0) = 2
            round(0, 0, 2001, 0) = -1 | round(0, 0, -1, 0) = -1 | round(100, 0, 9, 0) = -1 | round(0, 100, 9, 0) = -1 | round(-1, 0, 9, 0) = -1 | round(0, 0, 9, 3) = -1 | round(0, 0, 9, -1) = -1
            # `int dips(int week, int known, int t, int what)`: DIPS in a WEEK (0 .. 57) as known by T: SCHOOLS as bits (what 0), how many were LOOKED at (1). NONE.
            mark(1, 0, 14, 14, 0, 0) = 3 | mark(1, 0, 15, 14, 0, 0) = 4 | mark(0, 0, 16, 0, 0, 0) = 5 | mark(0, 0, 17, 0, 0, 9) = 6 | mark(0, 0, 798, 0, 0, 0) = 7
            dips(1, 9, 1, 0) = 2 | dips(1, 9, 2, 0) = 0 | dips(1, 0, 1, 1) = 2 | dips(1, 0, 1, 0) = 0 | dips(57, 0, 1, 1) = 1 | dips(56, 0, 1, 1) = 0 | dips(58, 0, 1, 1) = -1 | dips(-1, 0, 1, 1) = -1
            dips(1, 400, 1, 0) = -1 | dips(1, 9, 0, 0) = -1 | dips(1, 9, 21, 0) = -1 | dips(1, 9, 1, 2) = -1 | dips(1, 9, 1, -1) = -1
            # `int draw(int child, int got, int did)`: DRAWN: how many there are. -1; -2; -4; -5.
            draw(0, 1, -100) = 1 | draw(0, 1, 0) = -4 | status() = -4 | draw(2, 1, 0) = -2 | draw(2, 2, 0) = -1 | draw(1, 0, 100) = 2 | count(8) = 2
            # `int helped(int what)`: HELPED: in how many ways (what 0), of how many (1). NONE.
            helped(0) = 2 | helped(1) = 2 | helped(2) = -1 | helped(-1) = -1
            # `int beside(int from, int known)`: TRIED as known from a DAY on, the TAPE is empty then: how many MARKS. NONE for DAYS that can't be, no room for a TEXT (20), a TEXT that can't be.
            text code a late
            beside(400, 9) = -1 | beside(0, 400) = -1 | beside(-1, 9) = -1 | count(9) = 11 | beside(0, 9) = 5 | count(9) = 0 | count(4) = 1
            text code a late
            beside(8, 8) = 2
            text code a
            beside(0, 9) = -1 | fault() = 6 | count(9) = 0
            """);
        for (int i = 1; i < 20; i++) {
            script.put("off").due("act(0)", i);
        }
        run("""
            text code a late
            beside(0, 9) = -1 | count(9) = 11 | fault() = -1
            """);
    }

    private void keepPromises() {
        run("""
            # `int seal(int day)`: A DAY is SEALED (anew): how many MARKS it has. -1.
            """ + TWO_OF_EACH + """
            mark(0, 0, 0, 4, 0, 0) = 0 | mark(0, 0, 1, 4, 0, 0) = 1 | mark(0, 0, 2, 4, 0, 0) = 2
            seal(0) = 2 | seal(399) = 0 | seal(400) = -1 | status() = -1 | seal(-1) = -1 | alter(1, 1) = 5 | found(0) = 1 | seal(0) = 2 | found(0) = -1
            # `int alter(int mark, int mask)`: A MARK is ALTERED: its number then. -1; -2 (in status()).
            alter(1, 3) = 6 | status() = 0 | alter(1, 8) = -1 | status() = -1 | alter(1, 0) = -1 | alter(3, 1) = -2 | status() = -2 | alter(3, 8) = -1 | alter(-1, 1) = -2
            # `int found(int day)`: FOUND on a DAY; -3 it is not SEALED, or no DAY.
            found(0) = 1 | found(1) = -3 | found(399) = -1 | found(400) = -3 | found(-1) = -3
            # `int image(int k)`: IMAGE k is kept: 0; -1.
            image(0) = 0 | image(1) = 0 | image(2) = -1 | status() = -1 | image(-1) = -1
            # `int back(int k)`: BACK to IMAGE k: 0. -1; -2 it was not kept.
            school() = 2 | back(1) = 0 | status() = 0 | count(1) = 2 | back(2) = -1 | back(-1) = -1 | status() = -1
            new
            image(1) = 0 | back(0) = -2 | status() = -2 | back(1) = 0
            # `int count(int what)`: 0 CHILDREN, 1 SCHOOLS, 2 ROLLS, 3 MARKS, 4 ACTS, 5 RECORDS, 6 MISSING, 7 VISITS, 8 DRAWN, 9 bytes of the TAPE. NONE for others.
            """ + TWO_OF_EACH + """
            child(9, false, -1, 0, 0) = 2 | comes(2, 0, 0) = 4 | goes(2, 0, 0, -1) = 0
            mark(0, 0, 0, 0, 0, 0) = 0 | mark(0, 0, 0, 0, 0, 0) = 1 | mark(0, 0, 0, 0, 0, 0) = 2 | mark(0, 0, 0, 0, 0, 0) = 3 | mark(0, 0, 0, 0, 0, 0) = 4
            text off
            act(0) = 0
            record(0) = 1 | record(0) = 2 | record(0) = 3 | missing(0, 0) = 1 | missing(1, 0) = 2 | visit(0, 1, 1) = 1 | draw(0, 0, 0) = 1 | draw(1, 0, 0) = 2 | draw(2, 0, 0) = 3
            text code
            count(0) = 3 | count(1) = 2 | count(2) = 4 | count(3) = 5 | count(4) = 1 | count(5) = 3 | count(6) = 2 | count(7) = 1 | count(8) = 3 | count(9) = 4 | count(10) = -1 | count(-1) = -1
            # `int status()`: What the latest call of child, school, shut, comes, goes, failed, has, mark, appeal, act, take, pay, record, missing, visit, draw, seal, alter, image, back was REFUSED by; 0 if it was not, or ahead of any.
            new
            status() = 0 | seal(400) = -1 | status() = -1 | feed(0, 0, 0, 0, 0) = 20 | end(99) = -1 | end(0) = 0 | join(9) = -1 | join(0) = 0 | beside(0, 0) = -1 | isOn(0, 0, 0) = -1 | status() = -1
            """);
        String[] refused = {"child(2, false, 0, 0, 0) = -1", "shut(0, 0) = -2", "comes(0, 0, 0) = -2", "goes(0, 0, 0, -1) = -2", "failed(8, 0) = -1",
            "has(0, 0, 0, 0) = -2", "mark(0, 0, 0, 0, 0, 0) = -2", "appeal(0, 0, 0) = -2", "act(0) = -6", "take(0, 0, 0) = -2", "pay(0, 0, 0) = -2",
            "record(-1) = -1", "missing(0, 0) = -2", "visit(0, 1, 1) = -2", "draw(0, 0, 0) = -2", "seal(400) = -1", "alter(0, 1) = -2", "image(2) = -1", "back(1) = -2"};
        for (String call : refused) {
            String by = call.substring(call.lastIndexOf('=') + 1);
            script.run("new").run(call + "| status() =" + by + "| image(0) = 0 | status() = 0 |" + call + "| status() =" + by + "| back(0) = 0 | status() = 0");
        }
        script.run("new").run("school() = 0 | school() = 1 | school() = 2 | school() = 3 | school() = 4 | school() = -5 | status() = -5 | seal(0) = 0 | status() = 0");
    }
}
