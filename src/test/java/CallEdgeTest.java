/** The promises' own edges: for each sentence of theirs that names one a test. */
public final class CallEdgeTest {
    private static final int NONE = -1;
    private static final int[] ODD = {Integer.MIN_VALUE, Integer.MIN_VALUE + 1, -2, Integer.MAX_VALUE - 1, Integer.MAX_VALUE};
    private static final String SEVEN = "method f() steps 1 cells 0 { a: return 7; by {0; 0} }";
    /** Returns for 0 and more, else fails; makes an array of two cells ahead of that. */
    private static final String BOTH = "method f(n) needs n + 5 >= 0 steps 9 cells 9 { var x; a: x = new 2; x[1] = n;"
            + " if n < 0 goto b else c; by {6; 9; 6; 5; 6; 5; 6} b left 1, 0: fail; by {0; 0} c left 1, 0: return n; by {0; 0} }";

    public static void main(String[] args) {
        aNewObject();
        moreThanFourThousand();
        fourOfEachNumber();
        judgeThatIsNone();
        judgeThatRefuses();
        judgeThatTakes();
        faultAheadOfAny();
        twoHundredAreGiven();
        runThatIsNone();
        runAnew();
        aboutWhatThereIsNot();
        resultOfNone();
        cellsThatThereAreNot();
        boundsThatThereAreNot();
        countsOfNone();
        shownOfNone();
        termsThatThereAreNot();
        oversOfNone();
        oversLeaveTheRun();
        oversOfMethods();
        oversOfBlocks();
        oversByExactNumbers();
        Kit.end();
    }

    private static void dueNoRun(BoundHouse house, String when) {
        for (int what = -2; what < 11; what++) {
            Kit.due(when + ", about(" + what + ")", house.about(what), NONE);
        }
        Kit.due(when + ", result()", house.result(), 0);
        for (int k = -1; k < 3; k++) {
            Kit.due(when + ", cell(" + k + ", 0)", house.cell(k, 0), 0);
        }
        Kit.due(when + ", overs()", house.overs(), 0);
    }

    private static void dueNoProgram(BoundHouse house, String when) {
        dueNoRun(house, when);
        for (int m = -1; m < 3; m++) {
            Kit.due(when + ", run(" + m + ", 0, 0, 0)", house.run(m, 0, 0, 0), NONE);
            Kit.due(when + ", bound(" + m + ", 0, 0, 0, 0)", house.bound(m, 0, 0, 0, 0), NONE);
            Kit.due(when + ", bound(" + m + ", 1, 0, 0, 0)", house.bound(m, 1, 0, 0, 0), NONE);
            Kit.due(when + ", term(" + m + ", 0, -1)", house.term(m, 0, -1), 0);
            for (int what = -1; what < 7; what++) {
                Kit.due(when + ", shown(" + m + ", " + what + ")", house.shown(m, what), NONE);
            }
        }
        for (int what = 0; what < 4; what++) {
            Kit.due(when + ", count(" + what + ")", house.count(what), 0);
        }
    }

    /** Promise 1: "No text, no program; nothing is given." */
    private static void aNewObject() {
        dueNoProgram(new BoundHouse(), "a new object");
        Kit.due("no text", new BoundHouse().judge(1), NONE);
        Kit.due("no text, 20 bytes", new BoundHouse().judge(20), NONE);
        Kit.due("the first 20 bytes", new BoundHouse().feed(0, 0, 0, 0, 0), 20);
        Kit.due("the first that is given", new BoundHouse().give(0), 1);
        // two objects have nothing in common
        BoundHouse one = Kit.taken(SEVEN);
        BoundHouse two = new BoundHouse();
        one.run(0, 0, 0, 0);
        one.give(1);
        dueNoProgram(two, "another object");
        Kit.due("another object, give", two.give(1), 1);
    }

    /** Promise 2: "NONE if there would be more than 4,000." */
    private static void moreThanFourThousand() {
        BoundHouse house = new BoundHouse();
        String text = SEVEN + " ".repeat(3980 - SEVEN.length());
        Kit.due("3,980 bytes", Kit.feed(house, text), 3980);
        Kit.due("4,000 bytes", house.feed(0x20202020, 0x20202020, 0x20202020, 0x20202020, 0x20202020), 4000);
        for (int turn = 0; turn < 3; turn++) {
            Kit.due("4,020 bytes", house.feed(-1, -1, -1, -1, -1), NONE);
        }
        Kit.due("4,001 of them are judged", house.judge(4001), NONE);
        Kit.due("all 4,000 are judged, and none else came", house.judge(4000), 0);
        Kit.due("and the text is none", house.feed(0, 0, 0, 0, 0), 20);
        for (int k = 2; k <= 200; k++) {
            Kit.due("feed anew", house.feed(0, 0, 0, 0, 0), 20 * k);
        }
        Kit.due("feed anew, one too many", house.feed(0, 0, 0, 0, 0), NONE);
    }

    /** Promise 2: "four of each number, the highest first". */
    private static void fourOfEachNumber() {
        // twenty bytes, each in its place: the name is cut where the wrong byte stands
        for (int at = 0; at < 20; at++) {
            int[] five = new int[5];
            for (int i = 0; i < 20; i++) {
                int sign = i == at ? 0x81 : 0x20;
                five[i / 4] |= sign << 8 * (3 - i % 4);
            }
            BoundHouse house = new BoundHouse();
            house.feed(0x20202020, 0x20202020, 0x20202020, 0x20202020, 0x20202020);
            Kit.due("twenty more", house.feed(five[0], five[1], five[2], five[3], five[4]), 40);
            Kit.due("a wrong byte at " + at, house.judge(40), 1);
            Kit.due("a wrong byte at " + at + ", its place", house.fault(1), 20 + at);
        }
    }

    /** Promise 3: "NONE, doing nothing, if n is below 0 or more than there are." */
    private static void judgeThatIsNone() {
        BoundHouse house = Kit.taken(BOTH);
        house.run(0, 3, 0, 0);
        Kit.judge(house, "method f(");
        Kit.feed(house, SEVEN);
        for (int n : new int[] {-1, 61, 4000, 4001, Integer.MIN_VALUE, Integer.MAX_VALUE}) {
            Kit.due("judge(" + n + ")", house.judge(n), NONE);
            Kit.due("judge(" + n + ") leaves fault(0)", house.fault(0), 1);
            Kit.due("judge(" + n + ") leaves fault(1)", house.fault(1), 9);
            Kit.due("judge(" + n + ") leaves the run", house.result(), 3);
            Kit.due("judge(" + n + ") leaves the program", house.count(1), 3);
        }
        Kit.due("the text stayed", house.judge(60), 0);
        Kit.due("the text stayed, and is taken", house.count(1), 1);
        Kit.due("more than there are: of none", house.judge(1), NONE);
    }

    /** Promise 3: "or its FAULT 1 .. 5, and all but the text and fault() stays as it was". */
    private static void judgeThatRefuses() {
        String[] refused = {"method", "method f(n,n) steps 1 cells 0 { a: fail; by {0; 0} }", "method f() steps 1 cells 0 { a: fail; }",
            "method f() steps 1 cells 0 { a: fail; by {1; 0} }", "method f() steps 99999999*2 cells 0 { a: fail; by {0; 0} }"};
        int[] places = {6, 11, 29, 42, 17};
        for (int fault = 1; fault <= 5; fault++) {
            BoundHouse house = new BoundHouse();
            house.give(4);
            Kit.due("refused with " + fault + ", without a program", Kit.judge(house, refused[fault - 1]), fault);
            dueNoProgram(house, "refused with " + fault);
            Kit.judge(house, BOTH);
            house.run(0, -1, 0, 0);
            for (int turn = 0; turn < 2; turn++) {
                Kit.due("refused with " + fault, Kit.judge(house, refused[fault - 1]), fault);
                Kit.due("refused with " + fault + ", fault(0)", house.fault(0), fault);
                Kit.due("refused with " + fault + ", fault(1)", house.fault(1), places[fault - 1]);
                Kit.due("refused with " + fault + ", the text is none", house.judge(1), NONE);
                Kit.due("refused with " + fault + ", the run stays", house.about(0), 1);
                Kit.due("refused with " + fault + ", its place stays", house.about(5), BOTH.indexOf("fail"));
                Kit.due("refused with " + fault + ", its arrays stay", house.cell(1, 1), -1);
                Kit.due("refused with " + fault + ", its overs stay", house.overs(), 0);
                Kit.due("refused with " + fault + ", what was SHOWN stays", house.count(2), 11);
                Kit.due("refused with " + fault + ", the terms stay", house.term(0, 0, -1), 6);
                Kit.due("refused with " + fault + ", bounds stay", house.bound(0, 1, 0, 0, 0), 9);
            }
            Kit.due("refused with " + fault + ", the program runs", house.run(0, 2, 0, 0), 0);
            Kit.due("refused with " + fault + ", what is given stays", house.give(1), 2);
        }
    }

    /** Promise 3: "0, and it is the program, not run yet". */
    private static void judgeThatTakes() {
        BoundHouse house = Kit.taken(BOTH);
        house.give(9);
        house.run(0, 3, 0, 0);
        Kit.due("the same again", Kit.judge(house, BOTH), 0);
        dueNoRun(house, "taken again");
        Kit.due("taken again, give", house.give(9), 2);
        house.run(0, 4, 0, 0);
        Kit.due("of n bytes the first", Kit.feed(house, SEVEN + "   method"), 80);
        Kit.due("of n bytes the first, judged", house.judge(SEVEN.length() + 2), 0);
        dueNoRun(house, "another program");
        Kit.due("another program, count(2)", house.count(2), 2);
        Kit.due("another program, shown", house.shown(2, 0), NONE);
        Kit.due("another program, bound", house.bound(0, 0, -9, 0, 0), 1);
        house.run(0, 0, 0, 0);
        Kit.due("judge(0)", house.judge(0), 0);
        dueNoProgram(house, "judge(0)");
    }

    /** Promise 4: "NONE without, ahead of any, and for another what." */
    private static void faultAheadOfAny() {
        BoundHouse house = new BoundHouse();
        for (int what = -2; what < 4; what++) {
            Kit.due("ahead of any, fault(" + what + ")", house.fault(what), NONE);
        }
        Kit.judge(house, SEVEN);
        for (int what = -2; what < 4; what++) {
            Kit.due("without, fault(" + what + ")", house.fault(what), what == 0 ? 0 : NONE);
        }
        Kit.judge(house, " method f() steps 1 cells 0 { a: fail; by {1; 0} }");
        for (int what = -2; what < 4; what++) {
            Kit.due("with, fault(" + what + ")", house.fault(what), what == 0 ? 4 : what == 1 ? 43 : NONE);
        }
        for (int what : ODD) {
            Kit.due("with, fault(" + what + ")", house.fault(what), NONE);
        }
    }

    /** Promise 5: "NONE if there are 200." */
    private static void twoHundredAreGiven() {
        BoundHouse house = Kit.taken(Texts.FILL);
        for (int v = 1; v <= 200; v++) {
            Kit.due("give " + v, house.give(v == 200 ? Long.MIN_VALUE : v), v);
        }
        for (int turn = 0; turn < 3; turn++) {
            Kit.due("give 201", house.give(77), NONE);
        }
        Kit.due("all are read", house.run(0, 202, 0, 0), 0);
        Kit.due("the 199th", house.cell(1, 198), 199);
        Kit.due("the 200th", house.cell(1, 199), Long.MIN_VALUE);
        Kit.due("behind the last", house.cell(1, 200), 0);
    }

    /** Promise 6: "NONE, doing nothing, if there is none such, or these do not MEET its needs". */
    private static void runThatIsNone() {
        BoundHouse house = Kit.taken(BOTH);
        for (int m : new int[] {-1, 1, 2, Integer.MIN_VALUE, Integer.MAX_VALUE}) {
            Kit.due("run(" + m + ")", house.run(m, 0, 0, 0), NONE);
            dueNoRun(house, "run(" + m + ")");
        }
        Kit.due("not met", house.run(0, -6, 0, 0), NONE);
        dueNoRun(house, "not met");
        Kit.due("met", house.run(0, -5, 0, 0), 1);
        Kit.due("met, cell", house.cell(1, 1), -5);
        for (int turn = 0; turn < 2; turn++) {
            Kit.due("not met behind a run", house.run(0, -6, 0, 0), NONE);
            Kit.due("none such behind a run", house.run(1, 0, 0, 0), NONE);
            Kit.due("not met, the run stays", house.about(0), 1);
            Kit.due("not met, its steps stay", house.about(1), 4);
            Kit.due("not met, its arrays stay", house.cell(1, 1), -5);
            Kit.due("not met, its overs stay", house.overs(), 0);
        }
    }

    /** Promise 6: "Method m runs anew, with what is given from the first on". */
    private static void runAnew() {
        BoundHouse house = Kit.taken("method f() steps 3 cells 3 { var x,y; a: x = read; y = new 2; return x; by {0; 3; 0} }"
                + " method g() steps 1 cells 0 { a: return 9; by {0; 0} }");
        for (int turn = 1; turn < 4; turn++) {
            house.give(turn * 100L);
            Kit.due("run " + turn, house.run(0, 0, 0, 0), 0);
            Kit.due("from the first on", house.result(), 100);
            int[] want = {0, 3, 3, 1, 1, NONE, NONE, 1, 1};
            for (int what = 0; what < want.length; what++) {
                Kit.due("anew, about(" + what + ")", house.about(what), want[what]);
            }
        }
        Kit.due("another method", house.run(1, 0, 0, 0), 0);
        Kit.due("another method, result", house.result(), 9);
        Kit.due("another method, ARRAYS", house.about(7), 0);
        Kit.due("another method, reads", house.about(8), 0);
    }

    /** Promise 7: "NONE if there is none such (5, 6 of one that did not fail), or there was no run of this program." */
    private static void aboutWhatThereIsNot() {
        BoundHouse house = Kit.taken(BOTH);
        dueNoRun(house, "no run of this program");
        for (int n : new int[] {3, -3, 3}) {
            house.run(0, n, 0, 0);
            Kit.due("how it ended", house.about(0), n < 0 ? 1 : 0);
            Kit.due("the place where it failed", house.about(5), n < 0 ? BOTH.indexOf("fail") : NONE);
            Kit.due("why", house.about(6), n < 0 ? 1 : NONE);
            for (int what : new int[] {-1, 9, 10, 16, 64}) {
                Kit.due("about(" + what + ")", house.about(what), NONE);
            }
            for (int what : ODD) {
                Kit.due("about(" + what + ")", house.about(what), NONE);
            }
        }
        house = Kit.taken(Texts.LOOP);
        house.run(0, 100000, 0, 0);
        Kit.due("cut", house.about(0), 2);
        Kit.due("cut, the place", house.about(5), NONE);
        Kit.due("cut, why", house.about(6), NONE);
    }

    /** Promise 8: "0 if it did not (or there was none of this program)". */
    private static void resultOfNone() {
        BoundHouse house = Kit.taken(BOTH);
        Kit.due("no run", house.result(), 0);
        house.run(0, 5, 0, 0);
        Kit.due("returned", house.result(), 5);
        house.run(0, -5, 0, 0);
        Kit.due("failed", house.result(), 0);
        house = Kit.taken(Texts.LOOP);
        house.run(0, 5, 0, 0);
        Kit.due("returned", house.result(), 5);
        house.run(0, 6666, 0, 0);
        Kit.due("cut", house.result(), 0);
        house.run(0, 5, 0, 0);
        Kit.judge(house, SEVEN);
        Kit.due("none of this program", house.result(), 0);
        // it returned in a call, and failed behind it
        house = Kit.taken("method f() steps 3 cells 0 { var x; a: x = g(); fail; by {1; 0; 0; 0} }"
                + " method g() steps 1 cells 0 { a: return 8; by {0; 0} }");
        house.run(0, 0, 0, 0);
        Kit.due("a call returned, the run failed", house.result(), 0);
    }

    /** Promise 9: "0 if there is none such". */
    private static void cellsThatThereAreNot() {
        BoundHouse house = Kit.taken("method f() steps 5 cells 9 { var x,y; a: x = new 2; y = new 1; x[1] = 5; y[0] = 6; return 0;"
                + " by {0; 9; 6; 4} }");
        house.run(0, 0, 0, 0);
        long[][] cells = {{}, {0, 5}, {6}, {}, {}};
        for (int k = -1; k < 5; k++) {
            for (int i = -2; i < 5; i++) {
                boolean there = k >= 0 && i >= 0 && i < cells[k].length;
                Kit.due("cell(" + k + ", " + i + ")", house.cell(k, i), there ? cells[k][i] : 0);
            }
        }
        for (int odd : ODD) {
            Kit.due("cell(" + odd + ", 0)", house.cell(odd, 0), 0);
            Kit.due("cell(1, " + odd + ")", house.cell(1, odd), 0);
            Kit.due("cell(2, " + odd + ")", house.cell(2, odd), 0);
            Kit.due("cell(" + odd + ", " + odd + ")", house.cell(odd, odd), 0);
        }
        Kit.judge(house, SEVEN);
        Kit.due("none of this program", house.cell(1, 1), 0);
    }

    /** Promise 10: "-1 if there is no such method, they do not MEET its needs ..". */
    private static void boundsThatThereAreNot() {
        BoundHouse house = Kit.taken(BOTH);
        Kit.due("steps", house.bound(0, 0, -5, 0, 0), 9);
        Kit.due("cells", house.bound(0, 1, -5, 0, 0), 9);
        Kit.due("not met", house.bound(0, 0, -6, 0, 0), NONE);
        Kit.due("not met", house.bound(0, 1, -6, 0, 0), NONE);
        for (int m : new int[] {-1, 1, Integer.MIN_VALUE, Integer.MAX_VALUE}) {
            Kit.due("bound(" + m + ")", house.bound(m, 0, 0, 0, 0), NONE);
            Kit.due("bound(0, " + (m == 1 ? 2 : m) + ")", house.bound(0, m == 1 ? 2 : m, 0, 0, 0), NONE);
        }
        dueNoRun(house, "bounds are no runs");
    }

    /** Promise 11: "0 without a program; NONE for another what." */
    private static void countsOfNone() {
        BoundHouse house = new BoundHouse();
        for (int what = 0; what < 4; what++) {
            Kit.due("without a program, count(" + what + ")", house.count(what), 0);
        }
        Kit.judge(house, BOTH);
        int[] want = {1, 3, 11, 11};
        for (int what = 0; what < 4; what++) {
            Kit.due("count(" + what + ")", house.count(what), want[what]);
        }
        Kit.due("count(-1)", house.count(-1), NONE);
        Kit.due("count(4)", house.count(4), NONE);
        for (int what : ODD) {
            Kit.due("count(" + what + ")", house.count(what), NONE);
        }
    }

    /** Promise 12: "NONE if there is none such." */
    private static void shownOfNone() {
        BoundHouse house = Kit.taken(BOTH);
        int[] first = {BOTH.indexOf("6; 9; 6"), 0, 1, 1, 1, 1};
        int[] last = {BOTH.lastIndexOf("0} }"), 2, 1, 0, 1, 1};
        for (int what = 0; what < 6; what++) {
            Kit.due("the first, " + what, house.shown(0, what), first[what]);
            Kit.due("the last, " + what, house.shown(10, what), last[what]);
            Kit.due("ahead of the first, " + what, house.shown(-1, what), NONE);
            Kit.due("behind the last, " + what, house.shown(11, what), NONE);
            for (int odd : ODD) {
                Kit.due("shown(" + odd + ", " + what + ")", house.shown(odd, what), NONE);
            }
        }
        Kit.due("what -1", house.shown(0, -1), NONE);
        Kit.due("what 6", house.shown(0, 6), NONE);
        for (int odd : ODD) {
            Kit.due("what " + odd, house.shown(0, odd), NONE);
        }
    }

    /** Promise 13: "0 if there is none such." */
    private static void termsThatThereAreNot() {
        BoundHouse house = Kit.taken("method f(n,m) needs n >= 0, m >= 0 steps 5*n^2*m + 4 cells 0 { a: fail; by {3+5*#0*#0*#1; 0} }");
        int[][] want = {{5, 2, 1}, {3, 0, 0}};
        for (int k = -1; k < 4; k++) {
            for (int what = -3; what < 20; what++) {
                boolean there = k >= 0 && k < 2 && what >= -1 && what < 2;
                Kit.due("term(0, " + k + ", " + what + ")", house.term(0, k, what), there ? want[k][what + 1] : 0);
                Kit.due("term(1, " + k + ", " + what + ")", house.term(1, k, what), 0);
                Kit.due("term(2, " + k + ", " + what + ")", house.term(2, k, what), 0);
                Kit.due("term(-1, " + k + ", " + what + ")", house.term(-1, k, what), 0);
            }
        }
        for (int odd : ODD) {
            Kit.due("poly " + odd, house.term(odd, 0, -1), 0);
            Kit.due("term " + odd, house.term(0, odd, -1), 0);
            Kit.due("what " + odd, house.term(0, 0, odd), 0);
        }
    }

    /** Promise 14: 0 where there is no run, and in each that there is. */
    private static void oversOfNone() {
        BoundHouse house = new BoundHouse();
        Kit.due("a new object", house.overs(), 0);
        Kit.judge(house, BOTH);
        Kit.due("not run yet", house.overs(), 0);
        for (int n = -6; n < 3; n++) {
            house.run(0, n, 0, 0);
            Kit.due("overs of a run with " + n, house.overs(), 0);
            Kit.due("overs again", house.overs(), 0);
        }
        Kit.judge(house, SEVEN);
        Kit.due("another program", house.overs(), 0);
    }

    /** overs() tells of a run, and changes nothing of it. */
    private static void oversLeaveTheRun() {
        BoundHouse house = Kit.taken(BOTH + SEVEN.replace("f()", "g()")
                + " method h(n,m,k) steps 3 cells 5 { var x; a: x = new 4; x[k] = m; return n; by {0; 5; 0} }");
        house.run(2, 11, 12, 3);
        house.give(5);
        house.bound(0, 0, 1, 2, 3);
        house.run(0, -7, 1, 1);
        for (int turn = 0; turn < 3; turn++) {
            Kit.due("overs", house.overs(), 0);
            Kit.due("overs leave result()", house.result(), 11);
            Kit.due("overs leave cell(1, 3)", house.cell(1, 3), 12);
            int[] want = {0, 3, 5, 1, 1, NONE, NONE, 1, 0};
            for (int what = 0; what < want.length; what++) {
                Kit.due("overs leave about(" + what + ")", house.about(what), want[what]);
            }
        }
        house.run(0, -2, 0, 0);
        Kit.due("overs of the next run", house.overs(), 0);
        Kit.due("overs leave why", house.about(6), 1);
    }

    /** What the audit finds in a run of the first method of a text whose proofs were not looked at. */
    private static int oversOf(String text, long... params) {
        byte[] bytes = Kit.bytes(text);
        BoundHouse.Algebra algebra = new BoundHouse.Algebra();
        BoundHouse.Tokens tokens = new BoundHouse.Tokens();
        tokens.scan(bytes, bytes.length);
        BoundHouse.Reader reader = new BoundHouse.Reader(tokens, algebra);
        BoundHouse.Program program = new BoundHouse.Program();
        reader.read(program);
        Kit.due("a FAULT of the reader in " + text, reader.faultKind(), 0);
        BoundHouse.Machine machine = new BoundHouse.Machine();
        BoundHouse.Audit audit = new BoundHouse.Audit(algebra);
        machine.go(program, 0, java.util.Arrays.copyOf(params, 3), new long[0], 0, audit);
        return audit.found;
    }

    private static void dueOvers(int want, String text, long... params) {
        Kit.due("overs of " + text + " with " + java.util.Arrays.toString(params), oversOf(text, params), want);
    }

    /** "a method was called whose needs were below 0, or it had used .. more .. than its bound is .., or one of its gives .." */
    private static void oversOfMethods() {
        String needs = "method f(n) needs n >= 5, n <= 9 steps 9 cells 9 { a: fail; }";
        for (long n = 3; n < 12; n++) {
            dueOvers(n >= 5 && n <= 9 ? 0 : 1, needs, n);
        }
        // as it returned, failed, or was cut
        for (String end : new String[] {"return 0;", "fail;", "x = len 0; fail;"}) {
            dueOvers(0, "method f() steps 3 cells 9 { var x; a: x = 1; x = 2; " + end + " }");
            dueOvers(1, "method f() steps 2 cells 9 { var x; a: x = 1; x = 2; " + end + " }");
        }
        String cut = "method f() steps S cells 0 { a: goto b; b left 20000, 0: goto b; }";
        dueOvers(0, cut.replace("S", "20000").replace("b left", "b left 99999 -"));
        dueOvers(1, cut.replace("S", "19999").replace("b left", "b left 99999 -"));
        for (String end : new String[] {"return 0;", "fail;", "x = new -1; fail;"}) {
            dueOvers(0, "method f() steps 9 cells 5 { var x; a: x = new 4; " + end + " }");
            dueOvers(1, "method f() steps 9 cells 4 { var x; a: x = new 4; " + end + " }");
        }
        // for what it was called with
        dueOvers(0, "method f(n) steps n cells 0 { var x; a: x = 1; return x; }", 2);
        dueOvers(1, "method f(n) steps n cells 0 { var x; a: x = 1; return x; }", 1);
        // with all that it called: g has three steps and three cells of its own, f two steps beside
        String calls = "method f() steps S cells C { var x; a: x = g(); return x; }"
                + " method g() steps 3 cells 3 { var x; a: x = new 0; x = new 1; return x; }";
        dueOvers(0, calls.replace("S", "5").replace("C", "3"));
        dueOvers(1, calls.replace("S", "4").replace("C", "3"));
        dueOvers(1, calls.replace("S", "5").replace("C", "2"));
        dueOvers(1, calls.replace("S", "5").replace("C", "3").replace("g() steps 3", "g() steps 2"));
        dueOvers(2, calls.replace("S", "4").replace("C", "3").replace("cells 3 {", "cells 2 {"));
        String called = "method f() steps 9 cells 0 { var x; a: x = g(4); x = g(5); return x; } method g(n) N steps 9 cells 0 G { a: return 7; }";
        dueOvers(1, called.replace("N", "needs n >= 5").replace(" G", ""));
        dueOvers(0, called.replace("N", "needs n >= 4").replace(" G", ""));
        dueOvers(2, called.replace("N", "needs n >= 6").replace(" G", ""));
        // gives: only of what returned
        dueOvers(0, called.replace("N ", "").replace("G", "gives result >= 7, n + result <= 12"));
        dueOvers(1, called.replace("N ", "").replace("G", "gives result >= 7, n + result <= 11"));
        dueOvers(2, called.replace("N ", "").replace("G", "gives result >= 8"));
        dueOvers(0, called.replace("N ", "").replace("G", "gives result >= 8").replace("return 7", "fail"));
    }

    /** "a block began with one of what it keeps below 0, or when that method would use more until its end .. than is told .." */
    private static void oversOfBlocks() {
        String keeps = "method f(n) steps 9 cells 9 { var x; a: x = n; goto b; b keeps x >= 3, n <= 8 left 2, 0: return 1; }";
        for (long n = 1; n < 11; n++) {
            dueOvers(n >= 3 && n <= 8 ? 0 : 1, keeps, n);
        }
        String left = "method f() steps 99 cells 99 { var x; a: goto b; b left L, M: x = new 3; goto c; c left 9, 9: x = g(); return 1; }"
                + " method g() steps 3 cells 2 { var x; a: x = new 1; return x; }";
        // b: two steps, then two of c, and two of g; four cells, and two of g
        dueOvers(0, left.replace("L", "6").replace("M", "6"));
        dueOvers(1, left.replace("L", "5").replace("M", "6"));
        dueOvers(1, left.replace("L", "6").replace("M", "5"));
        dueOvers(1, left.replace("L", "0 - 5").replace("M", "6"));
        // as far as the run went
        dueOvers(0, left.replace("L", "4").replace("M", "4").replace("x = g(); return 1", "fail").replace("L", "3"));
        dueOvers(0, left.replace("L", "3").replace("M", "4").replace("x = g(); return 1", "fail"));
        dueOvers(1, left.replace("L", "2").replace("M", "4").replace("x = g(); return 1", "fail"));
        // each time that it begins: 0, 1 and 2 are too few for what is kept
        String loop = "method f(n) steps 999 cells 0 { var i; a: goto b; b keeps i >= 3 left 900, 0: i = i + 1; if i < n goto b else c;"
                + " c left 1, 0: return i; }";
        dueOvers(1, loop, 1);
        dueOvers(2, loop, 2);
        dueOvers(3, loop, 3);
        dueOvers(3, loop, 9);
        // in calls that are open when it is cut
        String deep = "method f() steps 99999 cells 0 { var x; a: x = g(); return x; }"
                + " method g() steps 99999 cells 0 { a: goto b; b left 19997, 0: goto c; c left 99999, 0: goto c; }";
        dueOvers(1, deep);
        dueOvers(0, deep.replace("19997", "19998"));
    }

    /** "by exact numbers": of what goes beyond 64 bits, and comes back. */
    private static void oversByExactNumbers() {
        long high = Long.MAX_VALUE;
        long low = Long.MIN_VALUE;
        dueOvers(0, "method f(n,m) needs n*m >= 0 steps 9 cells 0 { a: fail; }", high, high);
        dueOvers(1, "method f(n,m) needs n*m >= 0 steps 9 cells 0 { a: fail; }", high, low);
        dueOvers(0, "method f(n,m) needs n^6*m^6 >= 0 steps 9 cells 0 { a: fail; }", low, low);
        dueOvers(1, "method f(n,m) needs n^6*m^5 >= 0 steps 9 cells 0 { a: fail; }", low, low);
        for (long m : new long[] {-2, -1, 0, 1, 2}) {
            dueOvers(m < 0 ? 1 : 0, "method f(n,m) needs n^2*m >= 0 steps 9 cells 0 { a: fail; }", high, m);
            dueOvers(m > 0 ? 1 : 0, "method f(n,m) needs n^2*m <= 0 steps 9 cells 0 { a: fail; }", high, m);
            dueOvers(m != 0 ? 1 : 0, "method f(n,m) needs n^3*m^2 >= 0 steps 9 cells 0 { a: fail; }", low, m);
        }
        dueOvers(0, "method f(n,m) needs n^3 - m^3 >= 0 steps 9 cells 0 { a: fail; }", high, high);
        dueOvers(0, "method f(n,m) needs n^3 - m^3 >= 0 steps 9 cells 0 { a: fail; }", high, high - 1);
        dueOvers(1, "method f(n,m) needs n^3 - m^3 >= 0 steps 9 cells 0 { a: fail; }", high - 1, high);
        dueOvers(0, "method f(n,m) steps n^3 - m^3 + 1 cells 0 { a: fail; }", high, high);
        dueOvers(1, "method f(n,m) steps n^3 - m^3 cells 0 { a: fail; }", high, high);
        dueOvers(0, "method f(n,m) steps n^3 - m^3 + 20000 cells 0 { a: goto b; b left 1 + n^2, 0: goto b; }", high, high);
        dueOvers(1, "method f(n,m) steps n^3 - m^3 + 19999 cells 0 { a: goto b; b left 1 + n^2, 0: goto b; }", high, high);
        dueOvers(1, "method f(n,m) steps 9 cells n^2 - m^2 + 2 { var x; a: x = new 2; fail; }", low, low);
        dueOvers(0, "method f(n,m) steps 9 cells n^2 - m^2 + 3 { var x; a: x = new 2; fail; }", low, low);
        dueOvers(0, "method f(n) steps 9 cells 0 gives result^2*n >= 0 { a: return n; }", high);
        dueOvers(1, "method f(n) steps 9 cells 0 gives result^2*n >= 0 { a: return n; }", low);
        dueOvers(0, "method f(n,m) steps 9 cells 0 { a: goto b; b keeps n^4 >= m^4 left 9, 0: fail; }", low, high);
        dueOvers(1, "method f(n,m) steps 9 cells 0 { a: goto b; b keeps n^4 >= m^4 left 9, 0: fail; }", high, low);
    }
}
