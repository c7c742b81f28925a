/** Terms II: the limits of the acts' language, and the first TOKEN that can't go on at every place of a TEXT. */
public final class TextEdgesTest {
    /** TEXTS that can be, their TOKENS parted by blanks; a bar stands behind each TOKEN with which the TEXT could end. */
    private static final String[] WHOLE = {
        "strike 19 clause 11 | ; strike 0 clause 0 |",
        "code a here | if carer | or bus | and not part | and ( home ) |",
        "code z none | if 1 + 2 - 3 * 4 / 5 < 6 | + 7 | ; code b late | ; code c allowed | ; code d away |",
        "step 0 born in 1 | if [ 1 ] > [ [ minutes ] ] | ; off |",
        "step 3 [ half + day ] * [ week - school ] / away - possible in 400 | if not not ( not carer or 1 = 2 ) |",
        "fine 0 10000 quick 1 | ; fine 3 0 quick 400 | if ( ( ( part ) and ( home ) ) or bus ) |",
        "shut a 0 | ; shut z 3 | if away = possible | or away < possible | and away > possible |",
        "off | if not 1 * [ 2 + 3 ] = [ 4 ] | / 5 | ; off |"};

    public static void main(String[] args) {
        Script s = new Script("TextEdgesTest");
        everyPlace(s);
        numbers(s);
        bytes(s);
        lengths(s);
        clauses(s);
        leaves(s);
        brackets(s);
        latestFault(s);
        broken(s);
        wordsAtTheirLimits(s);
        s.close();
    }

    /** Ends the TEXT behind each TOKEN, and puts a sign that is in no TEXT, a word and a number beyond all ahead of each. */
    private static void everyPlace(Script s) {
        s.run("# promise 17: the first TOKEN that can't go on, or the end");
        for (String whole : WHOLE) {
            String[] tokens = whole.split(" ");
            StringBuilder text = new StringBuilder();
            for (int i = 0; i < tokens.length; i++) {
                if (tokens[i].equals("|")) {
                    s.reads(text.toString(), -1);
                    s.reads(text + "  ", -1);
                    continue;
                }
                String ahead = text.isEmpty() ? "" : text + " ";
                boolean couldEnd = i > 0 && tokens[i - 1].equals("|");
                if (!couldEnd) {
                    s.reads(text.toString(), text.length());
                    s.reads(ahead, ahead.length());
                }
                s.reads(ahead + "?", ahead.length());
                s.reads(ahead + "? " + tokens[i], ahead.length());
                s.reads(ahead + "unknown " + tokens[i], ahead.length());
                s.reads(ahead + "10001 " + tokens[i], ahead.length());
                text.append(text.isEmpty() ? "" : " ").append(tokens[i]);
            }
        }
    }

    private static void numbers(Script s) {
        s.run("# terms II: the least and the greatest NUMBER of each kind, and the next beyond");
        // the text around the NUMBER, the least and the greatest
        String[][] rows = {
            {"strike ", " clause 0", "0", "19"}, {"strike 0 clause ", "", "0", "11"}, {"step 0 1 in ", "", "1", "400"},
            {"fine 0 1 quick ", "", "1", "400"}, {"step ", " 1 in 1", "0", "3"}, {"fine ", " 1 quick 1", "0", "3"},
            {"shut a ", "", "0", "3"}, {"step 0 ", " in 1", "0", "10000"}, {"fine 0 ", " quick 1", "0", "10000"},
            {"off if ", "=1", "0", "10000"}, {"off if 1<", "", "0", "10000"}, {"off if [", "]>1", "0", "10000"},
            {"step 0 1*", " in 1", "0", "10000"}, {"step 0 1/", " in 1", "0", "10000"}, {"step 0 1+", " in 1", "0", "10000"},
            {"step 0 1-", " in 1", "0", "10000"}};
        String[] beyondAll = {"10001", "65536", "2147483647", "2147483648", "4294967296", "4294967297", "9999999999",
            "18446744073709551616", "18446744073709551617", "1".repeat(60)};
        for (String[] row : rows) {
            int least = Integer.parseInt(row[2]);
            int greatest = Integer.parseInt(row[3]);
            int place = row[0].length();
            s.reads(row[0] + least + row[1], -1);
            s.reads(row[0] + greatest + row[1], -1);
            s.reads(row[0] + "000000000000000000000" + greatest + row[1], -1);
            s.reads(row[0] + (greatest + 1) + row[1], place);
            if (least > 0) {
                s.reads(row[0] + (least - 1) + row[1], place);
                s.reads(row[0] + "000" + row[1], place);
            }
            for (String number : beyondAll) {
                s.reads(row[0] + number + row[1], place);
            }
            s.reads(row[0] + "-1" + row[1], place);
        }
        s.run("# terms II: a LETTER is one letter, the first or the last one");
        for (String head : new String[] {"code ", "shut "}) {
            String behind = head.equals("code ") ? " late" : " 3";
            s.reads(head + "a" + behind, -1).reads(head + "z" + behind, -1).reads(head + "aa" + behind, 5).reads(head + "zz" + behind, 5);
            s.reads(head + "`" + behind, 5).reads(head + "{" + behind, 5).reads(head + "A" + behind, 5).reads(head + "Z" + behind, 5).reads(head + "0" + behind, 5);
        }
    }

    private static void bytes(Script s) {
        s.run("# terms II: TOKENS are longest rows of a .. z, of digits, or single; blanks alone are between");
        for (int sign = 0; sign < 256; sign++) {
            char c = (char) sign;
            boolean letter = c >= 'a' && c <= 'z';
            s.reads("off" + c, c == ' ' ? -1 : letter ? 0 : c == ';' ? 4 : 3);
            s.reads(c + "off", c == ' ' ? -1 : 0);
            boolean digit = c >= '0' && c <= '9';
            s.reads("step 0 1" + c + "in 9", c == ' ' ? -1 : digit ? -1 : letter ? 8 : "+-*/".indexOf(c) >= 0 ? 9 : 8);
            s.reads("shut " + c + " 0", letter ? -1 : c == ' ' ? 7 : 5);
        }
        s.run("# terms II: no blanks where TOKENS part by themselves, many where they do");
        s.reads("step0 1in9if(carer)or[1]<2and not(bus)", -1).reads("strike0clause0;off;fine3 0quick1", -1);
        s.reads("  code   a    here  ;  off  if  not  not  bus  ", -1).reads("codea here", 0).reads("code ahere", 5).reads("code a hereif bus", 7);
        s.reads("off ifcarer", 4).reads("off if notcarer", 7).reads("off if carer orbus", 13).reads("step 01in9", 7).reads("step 0 1 in9 if1=1", -1).reads("off;offoff", 4);
        s.reads("step 0 1 i n 9", 9).reads("step 0 1 0 in 9", 9).reads("step 0 10 0 in 9", 10).reads("off if 1 = = 1", 11).reads("off if 1 < > 1", 11);
        s.run("# terms II: words with something behind or ahead, or cut");
        for (String word : new String[] {"code", "step", "fine", "shut", "off", "strike"}) {
            s.reads(word.substring(0, word.length() - 1), 0).reads(word + "s 0", 0).reads("x" + word, 0).reads(word.toUpperCase(), 0).reads(word + word, 0);
        }
        for (String word : new String[] {"born", "minutes", "half", "day", "week", "school", "away", "possible"}) {
            s.reads("off if " + word + "=1", -1).reads("off if 1=" + word, -1).reads("off if " + word, 7 + word.length());
            s.reads("off if " + word + "s=1", 7).reads("off if x" + word + "=1", 7).reads("off if " + word.substring(1) + "=1", 7).reads(word, 0);
            s.reads("off if possible" + word + "=1", 7).reads("off if (" + word + ")", 8 + word.length());
        }
        for (String word : new String[] {"carer", "part", "bus", "home"}) {
            s.reads("off if " + word, -1).reads("off if " + word + "s", 7).reads("off if x" + word, 7).reads("off if [" + word + "]", 8).reads("off if " + word + "=1", 7 + word.length());
            s.reads("step 0 " + word + " in 1", 7).reads("off if 1=" + word, 9);
        }
        for (String word : new String[] {"here", "late", "allowed", "away", "none"}) {
            s.reads("code a " + word, -1).reads("code a " + word + "x", 7).reads("code a " + word.substring(1), 7);
        }
    }

    private static void lengths(Script s) {
        s.run("# promise 16: a TEXT of 400 bytes; the end's FAULT is the TEXT's length");
        s.reads(" ".repeat(397) + "off", -1).reads("off" + " ".repeat(397), -1).reads(" ".repeat(400), 400).reads(" ".repeat(399), 399).reads(" ", 1).reads("", 0);
        s.reads(" ".repeat(396) + "off;", 400).reads(" ".repeat(399) + "x", 399).reads("a".repeat(400), 0).reads("off;" + "b".repeat(396), 4).reads("step 0 " + "7".repeat(393), 7);
        s.reads("step 0 1" + "0".repeat(4) + " in " + "0".repeat(381) + "400", -1).reads("off if " + "not ".repeat(98) + "1", 400).reads("off if" + " not".repeat(98), 398);
        s.reads("off if" + " not".repeat(97) + " bus ", -1).reads("off if" + " not".repeat(97) + " bus;", 399);
        s.run("""
            # promises 15, 17: the TEXT's length is what end() left
            new
            feed(1868981792, 1768300576, 538976288, 538976288, 538976288) = 20 | act(0) = -6 | fault() = 20
            feed(1868981792, 1768300576, 538976288, 538976288, 538976288) = 20 | end(6) = 6 | act(0) = -6 | fault() = 6
            feed(1868981792, 1768300576, 538976288, 538976288, 538976288) = 20 | end(3) = 3 | act(0) = 0 | fault() = -1
            feed(1868981792, 1768300576, 538976288, 538976288, 538976288) = 20 | end(3) = 3 | feed(1868981792, 1768300576, 538976288, 538976288, 538976288) = 23 | act(0) = -6 | fault() = 0
            """);
    }

    private static void clauses(Script s) {
        s.run("# terms II: 12 CLAUSES, FAULT at the 13th's first TOKEN");
        for (String clause : new String[] {"off", "strike 0 clause 0", "shut a 3", "code b away", "step 0 1 in 9"}) {
            String twelve = clause + (";" + clause).repeat(11);
            s.reads(twelve, -1).reads(twelve + ";" + clause, twelve.length() + 1).reads(twelve + ";", twelve.length() + 1).reads(twelve + " ;  x", twelve.length() + 4);
            s.reads(twelve + ";;", twelve.length() + 1).reads(twelve + " 9", twelve.length() + 1).reads(twelve + ";" + clause + ";" + clause, twelve.length() + 1);
        }
        s.reads("off;off;off;off;off;off;off;off;off;off;off;of", 44).reads("off;off;off;off;off;off;off;off;off;off;off;", 44);
    }

    private static void leaves(Script s) {
        s.run("# terms II: 50 NUMBERS and words that are PARTS or PLAINS, FAULT at the 51st");
        String[] parts = {"7", "born", "minutes", "half", "day", "week", "school", "away", "possible"};
        for (String part : parts) {
            String fortyNine = "step 0 1" + "+1".repeat(48);
            String fifty = fortyNine + "+" + part;
            s.reads(fifty + " in 9", -1).reads(fifty + "+" + part + " in 9", fifty.length() + 1).reads(fifty + "*[" + part + "] in 9", fifty.length() + 2);
            s.reads(fortyNine + " in 9;fine 0 " + part + " quick 9", -1).reads(fifty + " in 9;fine 0 " + part + " quick 9", fifty.length() + 13);
            s.reads(fifty + " in 9 if " + part + "=1", fifty.length() + 9);
        }
        for (String word : new String[] {"carer", "part", "bus", "home"}) {
            String fortyNine = "off if carer" + " or bus".repeat(48);
            String fifty = fortyNine + " and " + word;
            s.reads(fifty, -1).reads(fifty + " or " + word, fifty.length() + 4).reads(fifty + " or not(" + word + ")", fifty.length() + 8).reads(fifty + ";off", -1);
            s.reads(fortyNine + ";off if " + word, -1).reads(fifty + ";off if " + word, fifty.length() + 8).reads(fifty + " or 1=1", fifty.length() + 4);
        }
        String fifty = "off if 1" + "+1".repeat(48) + "=1";
        s.reads(fifty, -1).reads(fifty + "+1", fifty.length() + 1).reads(fifty + " or carer", fifty.length() + 4).reads("off if 1" + "+1".repeat(49) + "=1", fifty.length() + 1);
        s.run("# terms II: the NUMBERS of strike, clause, STEP, ROLE, in, quick are none of them, nor are KINDS and LETTERS");
        s.reads(fifty + ";strike 0 clause 0;shut a 3;code b away;code c here;strike 1 clause 1", -1);
        String stepped = "step 0 1" + "+1".repeat(24) + " in 9;fine 1 1" + "+1".repeat(24) + " quick 9";
        s.reads(stepped, -1).reads(stepped + ";step 1 1 in 1", stepped.length() + 8).reads(stepped + ";off;shut a 1", -1);
    }

    private static void brackets(Script s) {
        s.run("# terms II: 8 brackets of both kinds within one another, FAULT at the 9th");
        for (int round = 0; round <= 9; round++) {
            int square = 8 - round;
            if (square >= 0) {
                s.reads("off if " + "(".repeat(round) + "[".repeat(square) + "1" + "]".repeat(square) + "=1" + ")".repeat(round), -1);
                s.reads("off if " + "(".repeat(round) + "1=" + "[".repeat(square) + "1" + "]".repeat(square) + ")".repeat(round), -1);
                s.reads("off if " + "(".repeat(round) + "1=" + "[".repeat(square + 1) + "1" + "]".repeat(square + 1) + ")".repeat(round), 9 + 8);
            }
            int beyond = 9 - round;
            s.reads("off if " + "(".repeat(round) + "[".repeat(beyond) + "1" + "]".repeat(beyond) + "=1" + ")".repeat(round), 15);
        }
        s.reads("step 0 [[[[[[[[1]]]]]]]] in 1", -1).reads("step 0 [[[[[[[[[1]]]]]]]]] in 1", 15).reads("fine 0 [[[[[[[[1]]]]]]]]*[[[[[[[[2]]]]]]]] quick 1 if ((((((((bus))))))))", -1);
        s.reads("off if ((((((((not not bus))))))))", -1).reads("off if not(not(not(not(not(not(not(not(bus))))))))", -1).reads("off if not(not(not(not(not(not(not(not(not(bus)))))))))", 42);
        s.reads("off if (((((((([1]=1))))))))", 15).reads("off if ((((((((1=[1]))))))))", 17).reads("off if ((((((((1+[1]=2))))))))", 17);
        s.run("# terms II: beside one another there may be more of them");
        s.reads("off if (bus)" + "or(bus)".repeat(20), -1).reads("step 0 [1]" + "+[1]".repeat(49) + " in 9", -1).reads("off if ((((((((bus))))))))and((((((((bus))))))))", -1).reads("off if ((((((((bus)or(bus))))))))", -1).reads("off if ((((((((bus)or((bus)))))))))", 22);
        s.run("# terms II: brackets that are not closed, or by the other kind");
        s.reads("off if ((((((((bus)))))))", 25).reads("off if ((((((((bus)))))))))", 26).reads("off if (bus]", 11).reads("step 0 [1) in 1", 9).reads("off if [1=1]", 9).reads("off if (1)=1", 9).reads("off if [1]", 10);
    }

    private static void latestFault(Script s) {
        s.run("""
            # promise 17: of the latest that read a TEXT, whether act() or beside()
            new
            fault() = -1 | act(400) = -1 | fault() = -1 | beside(0, 400) = -1 | fault() = -1 | act(0) = -6 | fault() = 0
            text off x
            act(-1) = -1 | fault() = 0 | beside(400, 0) = -1 | fault() = 0 | act(0) = -6 | fault() = 4 | status() = -6
            text off
            act(400) = -1 | fault() = 4 | act(0) = 0 | fault() = -1
            text off if
            beside(0, 0) = -1 | fault() = 6 | count(9) = 0 | count(4) = 1
            text off
            beside(0, 0) = 0 | fault() = -1 | count(9) = 0 | count(4) = 1 | status() = 0
            beside(399, 399) = -1 | fault() = 0 | status() = 0
            feed(538976288, 538976288, 538976288, 538976288, 538976288) = 20 | beside(0, 0) = -1 | fault() = 20 | count(9) = 0
            # promises 17, 45: BACK leaves FAULT and TAPE
            image(0) = 0 | fault() = 20 | back(0) = 0 | fault() = 20
            text off
            back(0) = 0 | count(9) = 3 | fault() = 20 | act(0) = 1 | fault() = -1 | back(0) = 0 | fault() = -1 | count(4) = 1
            """);
    }

    private static void holds(Script s, String test, int want) {
        s.run("new\nchild(10, true, 3, 0, 0) = 0").put("off if " + test).due("act(0)", 0).due("off(0, 3, 0)", want);
    }

    private static void broken(Script s) {
        s.run("# terms II: BROKEN beyond 1,000,000,000 either way, or divided by 0; so is what rests on it");
        String billion = "10000*10000*10";
        String[] so = {billion + ">0", billion + "=" + billion, "0-" + billion + "<0", billion + "+0>0", billion + "-1+1=" + billion, "[0-" + billion + "]/[0-1]=" + billion,
            "[0-" + billion + "]*1<0", billion + "*1>0", billion + "/1>0", "[0-10000]*10000*10<0", "10000*[0-10000]*10<0", "[0-10000]*[0-10000]*10=" + billion, "0/1=0", "0/[0-1]=0", "1/2=0",
            "[0-1]/2=0", "7/[0-2]=0-3", "[0-7]/2=0-3", "[0-7]/[0-2]=3", "9999/10000=0", "10000/9999=1", "10000*10000/10000*10000*10=" + billion};
        for (String test : so) {
            holds(s, test, 1);
        }
        String[] not = {billion + "+1>0", "1+" + billion + ">0", "0-" + billion + "-1<0", billion + "*2>0", "[0-" + billion + "]*2<0", billion + "*10000>0", "10000*10000*10000*10000*10000=0",
            "[" + billion + "+1]-1>0", "[" + billion + "+1]*0=0", "0*[" + billion + "+1]=0", "0/[" + billion + "+1]=0", "1/0=0", "0/0=0", "0/0=1", "1/[1-1]=0", "[1/0]*0=0", "1<1/0", "1>1/0", "1/0=1/0", "not 1/0=1",
            "not not 1/0=0", "1=1 and 1/0=0", "1=2 or 1/0=0", "1/0=0 or 1=1", "1/0=0 and 1=2", "(1/0=0)or carer", "not(1=1 and 1/0=0)", "1/half=0", "1/[day-3]=0", "1/away=1", "10/[born-10]>0"};
        for (String test : not) {
            holds(s, test, 0);
        }
        s.run("# terms II: \"or\", \"and\" ask what stands behind only if it can still matter");
        for (String test : new String[] {"carer or 1/0=0", "not(bus and 1/0=0)", "carer or bus and 1/0=0", "carer or 1/0=0 and bus", "bus and 1/0=0 or carer", "carer and carer or 1/0=0", "(carer or 1/0=0)and carer",
            "not(bus or bus and 1/0=0)", "carer or 1/0=0 or 1/0=0", "bus and not part or carer", "carer or not bus or home", "not(bus and not part)", "bus and not part and home or carer", "carer or not bus and 1/0=0", "not(bus and 1/0=0 and 1/0=0)"}) {
            holds(s, test, 1);
        }
        for (String test : new String[] {"bus or 1/0=0", "carer and 1/0=0", "carer and 1/0=0 or carer", "(bus or 1/0=0)or carer", "bus or 1/0=0 or carer", "bus and 1/0=0", "bus and carer or 1/0=0", "bus and 1/0=0 and carer", "not(carer or not bus)", "bus and not part and carer", "(carer or not bus)and home", "not(carer or 1/0=0)"}) {
            holds(s, test, 0);
        }
        s.run("""
            # terms II: a CLAUSE whose SUM is BROKEN does not HOLD: the last one that does counts
            new
            child(9, false, -1, 0, 0) = 0 | school() = 0 | comes(0, 0, 0) = 1
            text code d away;step 0 1 in 1;step 0 1/0 in 1;step 1 1 in 1;step 1 10000*10000*10+1 in 1;step 2 1 in 1;step 2 1/0 in 1 if bus;step 3 1/0 in 9
            act(0) = 0
            mark(0, 0, 0, 3, 0, 0) = 0 | due(0, 0, 0, 0) = 0 | due(0, 1, 0, 0) = 0 | due(0, 2, 0, 0) = 0 | due(0, 3, 0, 0) = -1
            text step 0 10000*10000*10 in 1;step 1 2 in 1;step 2 1 in 1 if 1/0=1
            act(0) = 1 | due(0, 0, 0, 0) = -1 | due(0, 1, 0, 0) = -1 | due(0, 2, 0, 0) = 0
            """);
    }

    private static void wordsAtTheirLimits(Script s) {
        s.run("""
            # terms II: the words of a SUM at their least and greatest
            new
            child(3, false, -1, 0, 0) = 0 | child(18, true, 7, 99, 99) = 1 | school() = 0 | school() = 1 | school() = 2 | school() = 3 | school() = 4
            comes(0, 0, 0) = 1 | comes(1, 4, 0) = 2 | comes(0, 4, 0) = 3
            text code a here if born=3;code a late if born=18;code b here if minutes=0;code b late if minutes=300;code c here if school=0;code c late if school=4;code d here if half=0;code d late if half=1
            act(0) = 0
            text code e here if day=0 and week=0;code e late if day=399 and week=57;code f here if carer;code f late if not carer;code g away if away+possible=0
            act(0) = 1
            mark(0, 0, 0, 0, 0, 0) = 0 | mark(4, 1, 0, 0, 0, 0) = 1 | tells(0, 0, 0, 0, 3) = 0 | tells(4, 1, 0, 0, 3) = 1
            mark(0, 0, 0, 1, 0, 0) = 2 | mark(4, 1, 0, 1, 300, 0) = 3 | tells(0, 0, 0, 0, 3) = 0 | tells(4, 1, 0, 0, 3) = 1
            mark(0, 0, 0, 2, 0, 0) = 4 | mark(4, 1, 0, 2, 0, 0) = 5 | mark(4, 0, 0, 2, 0, 0) = 6 | tells(0, 0, 0, 0, 3) = 0 | tells(4, 1, 0, 0, 3) = 1 | tells(4, 0, 0, 0, 3) = 1
            mark(0, 0, 0, 3, 0, 0) = 7 | mark(0, 0, 799, 3, 0, 0) = 8 | tells(0, 0, 0, 0, 3) = 0 | tells(0, 0, 799, 0, 3) = 1
            mark(0, 0, 0, 4, 0, 0) = 9 | mark(0, 0, 799, 4, 0, 0) = 10 | tells(0, 0, 0, 0, 3) = 0 | tells(0, 0, 799, 0, 3) = 1
            mark(0, 0, 0, 5, 0, 0) = 11 | mark(4, 1, 0, 5, 0, 0) = 12 | tells(0, 0, 0, 0, 3) = 1 | tells(4, 1, 0, 0, 3) = 0
            mark(0, 0, 799, 6, 0, 0) = 13 | tells(0, 0, 799, 0, 3) = 3 | tells(0, 0, 799, 0, 4) = 16
            """);
    }
}
