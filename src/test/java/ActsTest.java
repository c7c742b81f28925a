/** Promises 14 to 18: the tape, acts, their faults, and which clauses are in force. */
public final class ActsTest {
    public static void main(String[] args) {
        Script s = new Script("ActsTest");
        tape(s);
        acts(s);
        faults(s);
        limits(s);
        force(s);
        sums(s);
        s.close();
    }

    private static void tape(Script s) {
        s.run("""
            # promises 14, 15
            new
            end(0) = 0 | end(1) = -1 | end(-1) = -1 | count(9) = 0
            """);
        for (int n = 20; n <= 400; n += 20) {
            s.due("feed(538976288, -1, 0, 2147483647, -2147483648)", n);
        }
        s.run("""
            feed(0, 0, 0, 0, 0) = -1 | count(9) = 400
            end(401) = -1 | end(400) = 400 | end(381) = 381 | feed(0, 0, 0, 0, 0) = -1 | count(9) = 381
            end(380) = 380 | feed(0, 0, 0, 0, 0) = 400
            end(7) = 7 | end(8) = -1 | count(9) = 7
            status() = 0
            # promise 14: the highest byte first
            new
            feed(1868981792, 538976288, 538976288, 538976288, 538976343) = 20
            end(19) = 19 | act(0) = 0 | count(9) = 0
            feed(1868981792, 538976288, 538976288, 538976288, 538976343) = 20
            act(0) = -6 | fault() = 19
            """);
    }

    private static void acts(Script s) {
        s.run("""
            # promises 16, 17
            new
            fault() = -1
            act(0) = -6 | fault() = 0 | status() = -6
            feed(538976288, 538976288, 538976288, 538976288, 538976288) = 20
            act(399) = -6 | fault() = 20 | count(9) = 0
            feed(1868981792, 538976288, 538976288, 538976288, 538976288) = 20
            act(-1) = -1 | status() = -1 | fault() = 20 | count(9) = 20
            act(400) = -1 | count(9) = 20
            act(399) = 0 | status() = 0 | fault() = -1 | count(9) = 0 | count(4) = 1
            """);
        for (int i = 1; i < 20; i++) {
            s.run("text off");
            s.due("act(0)", i);
        }
        s.run("""
            # promise 16: 20 acts
            text offf
            act(400) = -1 | act(0) = -5 | status() = -5 | fault() = -1 | count(9) = 4 | count(4) = 20
            """);
    }

    private static void faults(Script s) {
        s.run("# promises 16, 17: what can be read, and where it can't go on");
        String[] fine = {"off", " off ", "off if carer", "off if not not bus", "code z none", "strike19clause11",
            "step3[1+2]*3in400", "fine 0 10000 quick 1", "off if(1<2)and not(part or home)", "shut b 3 if 0000000000000001=1",
            "off if born+minutes-half*day/week=school and away<possible", "off;off;off;off;off;off;off;off;off;off;off;off"};
        for (String text : fine) {
            s.reads(text, -1);
        }
        Object[][] wrong = {
            {"off off", 4}, {"Off", 0}, {"offs", 0}, {";off", 0}, {"off;", 4}, {"off; ", 5}, {"off;;off", 4}, {"off if", 6},
            {"code", 4}, {"code aa here", 5}, {"code 1 here", 5}, {"code A here", 5}, {"code a", 6}, {"code a hre", 7},
            {"code a here if carer and", 24}, {"code a here or", 12}, {"code a here late", 12}, {"codea here", 0}, {"codez none", 0},
            {"step", 4}, {"step 4 1 in 1", 5}, {"step a 1 in 1", 5}, {"step 0 in 1", 7}, {"step 0 1 quick 1", 9},
            {"step 0 1 in", 11}, {"step 0 1 in 0", 12}, {"step 0 1 in 401", 12}, {"step 0 1 in x", 12}, {"step 0 1+ in 1", 10},
            {"step 0 carer in 1", 7}, {"step 0 -1 in 1", 7}, {"step 0 1 2 in 1", 9}, {"step 0 (1) in 1", 7},
            {"fine 0 1 in 3", 9}, {"fine 0 1 quick 401", 15}, {"fine 0 1 quick 0", 15}, {"fine 9 1 quick 1", 5},
            {"fine 0 [1 quick 3", 10}, {"fine 0 1] quick 3", 8}, {"fine 0 [] quick 3", 8}, {"fine 0 10001 quick 1", 7},
            {"fine 0 99999999999999999999 quick 1", 7}, {"fine 0 1 * 10001 quick 1", 11}, {"fine 0 2147483648 quick 1", 7},
            {"shut a", 6}, {"shut a 4", 7}, {"shut a x", 7}, {"shut ab 1", 5}, {"shut a 1 2", 9},
            {"strike", 6}, {"strike 20 clause 0", 7}, {"strike 0", 8}, {"strike 0 clause", 15}, {"strike 0 clause 12", 16},
            {"strike 0 claus 1", 9}, {"strike 0 clause 0 if carer", 18}, {"strike x clause 0", 7}, {"strike 0 clause 0;", 18},
            {"off if carer = 1", 13}, {"off if 1 = carer", 11}, {"off if (carer", 13}, {"off if carer)", 12}, {"off if ()", 8},
            {"off if (1+2)=3", 11}, {"off if [carer]", 8}, {"off if [1<2]", 9}, {"off if 1<2<3", 10}, {"off if 1", 8},
            {"off if not", 10}, {"off if and", 7}, {"off if 1=1 or or", 14}, {"off if 1==1", 9}, {"off if away", 11},
            {"off if 1 < 10001", 11}, {"off if 1 + 1 and", 13}, {"off if here", 7}, {"off if possibles = 1", 7},
            {"off if Away = 1", 7}, {"off if born = 1.", 15}, {"off\tif carer", 3}, {"off if carer;code", 17}};
        for (Object[] row : wrong) {
            s.reads((String) row[0], (Integer) row[1]);
        }
    }

    private static void limits(Script s) {
        s.run("# promise 17: 12 clauses, 50 leaves, 8 brackets");
        s.reads("off;off;off;off;off;off;off;off;off;off;off;off", -1);
        s.reads("off;off;off;off;off;off;off;off;off;off;off;off;", 48);
        s.reads("off;off;off;off;off;off;off;off;off;off;off;off;off", 48);
        s.reads("off;off;off;off;off;off;off;off;off;off;off;off; x", 49);
        String fifty = "fine 0 1" + "+1".repeat(49);
        s.reads(fifty + " quick 9", -1);
        s.reads(fifty + "+1 quick 9", 7 + 100);
        s.reads(fifty + "+[1] quick 9", 7 + 101);
        s.reads(fifty + "+x quick 9", 7 + 100);
        s.reads(fifty + " quick 9 if carer", fifty.length() + 12);
        s.reads(fifty + " quick 9;strike 0 clause 0;step 0 1 in 3", fifty.length() + 9 + 18 + 7);
        s.reads(fifty + " quick 9;strike 0 clause 0;shut a 3;code b here", -1);
        s.reads("off if carer" + " or bus".repeat(49), -1);
        s.reads("off if carer" + " or bus".repeat(50), 12 + 49 * 7 + 4);
        s.reads("off if ((((((((carer))))))))", -1);
        s.reads("off if (((((((((carer)))))))))", 15);
        s.reads("off if (((([[[[1]]]]=1))))", -1);
        s.reads("off if (((([[[[[1]]]]]=1))))", 15);
        s.reads("off if (carer) and (((((((([1]=1))))))))", 27);
        s.reads("off if (carer) and ((((((([1]=1)))))))", -1);
        s.reads("fine 0 [[[[[[[[1]]]]]]]] quick 1 if [[[[[[[[1]]]]]]]]=1", -1);
        s.reads("off if " + "not ".repeat(97) + "bus", -1);
        s.reads("off if " + "not(".repeat(8) + "bus" + ")".repeat(8) + " and " + "not(".repeat(8) + "bus" + ")".repeat(8), -1);
        s.run("# promise 16: long texts, one behind the other\nnew\nchild(9, false, -1, 0, 0) = 0");
        for (int i = 0; i < 12; i++) {
            s.put("off if 1" + "+1".repeat(49 - 1) + "=" + (i == 11 ? 49 : 48) + " ".repeat(200));
            s.due("act(0)", i);
            s.due("off(0, 0, 0)", i == 11 ? 1 : 0);
        }
        s.run("# promise 17: a tape of 400 bytes");
        s.reads("off if carer" + " ".repeat(388), -1);
        s.reads("off if carer" + " ".repeat(387) + "x", 399);
        s.reads("1".repeat(400), 0);
        s.reads("code " + "a".repeat(395), 5);
    }

    private static void force(Script s) {
        s.run("""
            # promise 18
            new
            force(0, 0, 0) = -1
            text code a here;off;strike 0 clause 0;strike 1 clause 0
            act(2) = 0
            force(0, 0, 1) = 0 | force(0, 0, 2) = 1 | force(0, 0, 399) = 1 | force(0, 3, 2) = 1
            force(0, 4, 2) = -1 | force(0, -1, 2) = -1 | force(1, 0, 2) = -1 | force(-1, 0, 2) = -1
            force(0, 0, -1) = -1 | force(0, 0, 400) = -1
            # promise 18: struck from the later text's day on; neither itself nor one told later is struck
            text strike 0 clause 1;strike 1 clause 0;strike 2 clause 0;off
            act(5) = 1
            force(0, 1, 4) = 1 | force(0, 1, 5) = 0 | force(0, 0, 5) = 1 | force(1, 0, 5) = 1 | force(1, 0, 4) = 0
            # promise 18: a strike that is struck strikes nothing
            text strike 1 clause 0;strike 0 clause 9
            act(9) = 2
            force(1, 0, 8) = 1 | force(1, 0, 9) = 0 | force(0, 1, 8) = 0 | force(0, 1, 9) = 1
            text strike 2 clause 0
            act(7) = 3
            force(2, 0, 9) = 0 | force(2, 0, 8) = 0 | force(1, 0, 9) = 1 | force(0, 1, 9) = 0
            # promise 18: a strike of any clause can be struck, the last one of twelve too
            new
            text off;off
            act(0) = 0
            text off;strike 0 clause 0;off;off;off;off;off;off;off;off;off;strike 0 clause 1
            act(0) = 1 | force(0, 0, 0) = 0 | force(0, 1, 0) = 0
            text strike 1 clause 1
            act(3) = 2 | force(0, 0, 2) = 0 | force(0, 0, 3) = 1 | force(0, 1, 3) = 0 | force(1, 1, 2) = 1 | force(1, 1, 3) = 0 | force(1, 11, 3) = 1
            text strike 1 clause 11
            act(5) = 3 | force(0, 1, 4) = 0 | force(0, 1, 5) = 1 | force(1, 11, 5) = 0
            text strike 3 clause 0;strike 2 clause 1;strike 0 clause 2;strike 0 clause 11
            act(7) = 4 | force(0, 1, 7) = 0 | force(1, 11, 7) = 1 | force(0, 0, 7) = 1
            new
            text code a here;off
            act(2) = 0
            text strike 0 clause 1;off
            act(5) = 1
            # promise 18: a text told later that is in force from an earlier day strikes too
            text strike 0 clause 0
            act(0) = 2
            force(0, 0, 2) = 0 | force(0, 0, 1) = 0 | force(2, 0, 0) = 1
            status() = 0
            """);
    }

    private static void holds(Script s, String test, int want) {
        s.run("new\nchild(10, true, 3, 0, 0) = 0 | child(5, false, -1, 0, 0) = 1");
        s.run("has(0, 0, 3, 4) = 1 | has(0, 1, 4, 5) = 1 | failed(3, 6) = 1 | failed(3, 9) = 2");
        s.put("off if " + test);
        s.due("act(0)", 0);
        s.run("# promise 26 of " + test);
        s.due("off(0, 3, 0)", want);
    }

    /** Sums and tests, asked of child 0 on day 3. */
    private static void sums(Script s) {
        String[] so = {"1+2*3=7", "[1+2]*3=9", "7/2=3", "[0-7]/2=0-3", "10-3-2=5", "100/10/2=5", "2*3/4=1", "7-2*3=1",
            "10000*10000*10=10000*10000*10", "0-10000*10000*10<0", "carer", "part", "not home", "bus", "not not carer",
            "born=10", "half=0", "day=3", "week=0", "school=0", "minutes=0", "away=0", "possible=0", "1<2", "2>1", "not 1>1",
            "not 1<1", "carer or 1/0=1", "not(home and 1/0=1)", "home or part", "home and home or carer", "carer or home and home",
            "not home and carer", "not(home or home)", "carer and(home or part)", "1=1 and 2=2 and 3=3", "home or home or carer",
            "[[[[[[[[1]]]]]]]]=1", "home and 1/0=1 or carer", "carer or 1/0=1 or 1/0=2"};
        for (String test : so) {
            holds(s, test, 1);
        }
        String[] not = {"1/0=1", "not 1/0=1", "10000*10000*10+1>0", "10000*10000*11>0", "0-10000*10000*10-1<0", "1/0=1 or carer",
            "carer and 1/0=1", "1/0=1 and home", "home", "1=2", "2<1", "1>2", "carer and home", "home or home", "not carer",
            "not(carer or 1/0=1)", "10000*10000*11-10000*10000*11=0", "1/[born-10]=1", "home and carer or home", "carer and not carer",
            "not carer or home", "1-1/0*0=1", "not carer and carer", "not carer and not carer"};
        for (String test : not) {
            holds(s, test, 0);
        }
        s.run("""
            # promise 26: of another child, on other days
            new
            child(10, true, 3, 0, 0) = 0 | child(5, false, -1, 0, 0) = 1
            failed(3, 6) = 1 | failed(3, 9) = 2 | has(0, 0, 3, 4) = 1 | has(1, 1, 8, 8) = 1
            text off if bus;off if part;off if home;off if week = 57
            act(0) = 0
            off(0, 3, 0) = 1 | off(0, 4, 0) = 1 | off(0, 5, 0) = 0 | off(0, 2, 0) = 0 | off(1, 3, 0) = 0
            off(1, 7, 0) = 0 | off(1, 8, 0) = 1 | off(1, 9, 0) = 0 | off(1, 398, 0) = 0 | off(1, 399, 0) = 1
            off(2, 0, 0) = -1 | off(-1, 0, 0) = -1 | off(0, 400, 0) = -1 | off(0, -1, 0) = -1 | off(0, 0, 400) = -1 | off(0, 0, -1) = -1
            """);
    }
}
