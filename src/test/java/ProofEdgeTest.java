/** Terms, chapter IV: for each of its sentences that names an edge a test; the sign @ stands at the place that is due. */
public final class ProofEdgeTest {
    private static final String G = " method g(p) needs p^2 >= 0, p <= 9 steps 5 cells 1 gives result >= p, result <= 9"
            + " { a: fail; by {4; 1} }";

    public static void main(String[] args) {
        asManyWitnessesAsAreWanted();
        countGoesAheadOfTheBlock();
        textGoesAheadOfProofs();
        methodByMethod();
        inOrderOfABlock();
        inOrderOfANew();
        inOrderOfAReturn();
        numberOfAWitness();
        hypothesesThatAreNotThere();
        hypothesesAsTheyCome();
        whatIsLookedAtFirst();
        whenTheyDiffer();
        symbols();
        symbolsOfStatements();
        whatQuotientsAndRestsBring();
        localsAtTheFirstBlock();
        whatComesAndGoes();
        stepsAndCellsThatAreLeft();
        Kit.end();
    }

    private static void taken(String text) {
        Kit.dueFault(text, 0, -1);
    }

    private static String one(String body) {
        return "method f(n) needs n >= 0 steps 100 cells 100 { var x,y,z; a: " + body + " }";
    }

    /** "3 ..: there are not as many witnesses as are wanted (at by; at the block's name without one)". */
    private static void asManyWitnessesAsAreWanted() {
        String goals = " b left 1, 0: fail; by {0; 0} c keeps n >= 0, x >= 0, y >= 0 left 1, 0: fail; by {0; 0}";
        dueCount("fail;", goals, 2);
        dueCount("return 0;", goals, 2);
        dueCount("goto b;", goals, 4);
        dueCount("goto c;", goals, 7);
        dueCount("if n < 1 goto b else b;", goals, 6);
        dueCount("if n == 1 goto b else c;", goals, 9);
        dueCount("if n != 1 goto c else c;", goals, 12);
        for (String statement : new String[] {"x = 1;", "x = n + 1;", "x = n - 1;", "x = n * 2;", "x = n / 2;", "x = n % 2;",
            "x = len n;", "x = n[0];", "x[0] = 1;", "x = read;"}) {
            dueCount(statement + " fail;", goals, 2);
        }
        dueCount("x = new 1; fail;", goals, 3);
        dueCount("x = new 1; y = new 1; goto b;", goals, 6);
        dueCount("x = f(n); fail;", goals, 5);
        dueCount("x = g(n); fail;", goals + " }" + G.substring(0, G.length() - 2), 6);
        dueCount("x = g(n); x = g(n); x = new 1; goto c;", goals + " }" + G.substring(0, G.length() - 2), 16);
        String gives = "method f(n) steps 9 cells 0 gives result >= 0, 1 >= 0, 2 >= 0 { a: return 5; ";
        taken(gives + "by {8; 0; 5; 1; 2} }");
        Kit.dueFault(3, gives + "@by {8; 0; 5; 1} }");
        Kit.dueFault(3, gives + "@by {8; 0; 5; 1; 2; 0} }");
        Kit.dueFault(3, (gives + "}").replace("a: return", "@a: return"));
        // what it gives is wanted at return alone
        taken(gives.replace("return 5", "fail") + "by {8; 0} }");
    }

    /** With so many witnesses the count is right (the next fault is another one); with one less, one more or none it is not. */
    private static void dueCount(String body, String behind, int wanted) {
        String zeros = "0; ".repeat(wanted - 1) + "0";
        BoundHouse house = new BoundHouse();
        Kit.judge(house, one(body + " by {" + zeros + "}" + behind));
        Kit.due(wanted + " witnesses of " + body, house.fault(0), 4);
        Kit.dueFault(3, one(body + " @by {" + zeros.substring(3) + "}" + behind));
        Kit.dueFault(3, one(body + " @by {" + zeros + "; 0}" + behind));
        Kit.dueFault(3, one(body + behind).replace(" a: ", " @a: "));
    }

    /** "3, ahead of all else of the block". */
    private static void countGoesAheadOfTheBlock() {
        // what would be faults, too: S TOO BIG, the first witness, a statement, the jump
        Kit.dueFault(3, one("fail; by {99; 100} b left -99999999, 0: fail; @by {0; 0; 0}"));
        Kit.dueFault(3, one("fail; by {99; 100} @b left -99999999, 0: fail;"));
        Kit.dueFault(3, one("fail; @by {0: 0}"));
        Kit.dueFault(3, one("x = 99999999 + 1; fail; @by {98}"));
        Kit.dueFault(3, one("fail; @by {#99}"));
        // but not ahead of a block that stands ahead of it
        Kit.dueFault(4, one("fail; by {@98; 100} b left 1, 0: fail;"));
        Kit.dueFault(5, one("@x = 99999999 + 1; fail; by {98; 100} b left 1, 0: fail;"));
        Kit.dueFault(3, one("fail; by {99; 100} @b left 1, 0: fail; c left 1, 0: fail; by {1; 0}"));
    }

    /** "conds and polys of all methods in order of the text: 5 .. Then method by method". */
    private static void textGoesAheadOfProofs() {
        String g = " method g(n) needs @99999999*n*2 >= 0 steps 1 cells 0 { a: fail; }";
        Kit.dueFault(5, "method f() steps 1 cells 0 { a: fail; }" + g);
        Kit.dueFault(5, "method f() steps 1 cells 0 { a: fail; by {1; 0} }" + g);
        Kit.dueFault(5, "method f() steps 1 cells 0 { var x; a: x = 99999999 + 1; fail; by {0; 0} }" + g);
        Kit.dueFault(5, "method f() steps 1 cells 0 { a: fail; by {1; 0} b left @99999999*2, 0: fail; }" + g.replace("@", ""));
        Kit.dueFault(3, "method f() steps 1 cells 0 { @a: fail; }" + g.replace("@", "").replace("99999999", "49999999"));
    }

    /** "Then method by method, block by block". */
    private static void methodByMethod() {
        String[] good = {"method f() steps 1 cells 0 { a: fail; by {0; 0} b left 1, 0: fail; by {0; 0} }",
            " method g() steps 1 cells 0 { a: fail; by {0; 0} b left 1, 0: fail; by {0; 0} }"};
        taken(good[0] + good[1]);
        String bad = good[0].replace("by {0; 0} }", "by {@1; 0} }");
        Kit.dueFault(4, bad + good[1].replace("0; 0}", "1; 0}"));
        Kit.dueFault(4, bad.replace("a: fail; by {0", "a: fail; by {@1").replace("{@1; 0} }", "{1; 0} }"));
        Kit.dueFault(4, good[0] + good[1].replace("by {0; 0} }", "by {0; @1} }"));
        Kit.dueFault(4, good[0] + good[1].replace("by {0; 0} }", "by {0; 1} }").replace("a: fail; by {0", "a: fail; by {@1"));
    }

    /** What is good, and what is not, of one after the other of a block's checks; $ and a letter is a place. */
    private static final String ORDER = "method f(n) needs n >= 0 steps <S> cells 100 { var x,y; $Aa: $Bx = 99999998 + <1>;"
            + " $Cy = g(<G>); $Dif x <R> goto b else c; $Eby {<w0>; <w1>; <w2>; <w3>; <w4>; <w5>; <w6>; <w7>; <w8>; <w9>; <w10><more>}"
            + " $Fb keeps <K> >= 0 left <L>, <M>: fail; <by>"
            + " c keeps <k> >= 0 left <l>, <m>: fail; by {<v0>; 0} }"
            + " method g(p) needs p^2 >= 0 steps <gS> cells <gC> gives result >= <gG> { a: fail; by {9; 5} }";

    /** What it stands for, as it is good, as it is not, the FAULT, and its place; $ alone: where it stands itself. */
    private static final String[][] CHECKS = {
        {"<more>", "", "; 0", "3", "$E"}, {"<S>", "100", "-99999998", "5", "$A"}, {"<w0>", "97", "96", "4", "$"},
        {"<w1>", "100", "99", "4", "$"}, {"<1>", "1", "2", "5", "$B"}, {"<G>", "2", "10000", "5", "$C"}, {"<w2>", "4", "0: 5", "4", "$"},
        {"<gS>", "10", "50000000*p", "5", "$C"}, {"<w3>", "87", "88+#2", "4", "$"}, {"<gC>", "5", "p*50000000", "5", "$C"},
        {"<w4>", "95", "#1", "4", "$"}, {"<gG>", "p", "50000000*p", "5", "$C"}, {"<R>", "> 0", "< -1", "5", "$D"},
        {"<K>", "x", "x + 1", "5", "$D"}, {"<w5>", "99999999", "99999999+0*#3", "4", "$"}, {"<L>", "1", "-99999999", "5", "$D"},
        {"<w6>", "86", "99999999+1", "5", "$"}, {"<M>", "0", "2*x", "5", "$D"}, {"<w7>", "95", "94+#0", "4", "$"},
        {"<R>", "> 0", ">= 0", "5", "$D"}, {"<k>", "x", "2*x", "5", "$D"}, {"<w8>", "99999999+0*#2", "99999999+0*#3", "4", "$"},
        {"<l>", "1", "-x", "5", "$D"}, {"<w9>", "2: 172", "99999998: 0", "5", "$"}, {"<m>", "0", "-99999905", "5", "$D"},
        {"<w10>", "3: 285", "3: 95", "4", "$"}, {"<by>", "by {0; 0}", "", "3", "$F"}, {"<v0>", "0", "1", "4", "$"}};

    /** "FAULTS, the first that is met .. Then in order": what is behind it may be as wrong as it likes. */
    private static void inOrderOfABlock() {
        for (int first = 0; first < CHECKS.length; first++) {
            Kit.dueFault(Integer.parseInt(CHECKS[first][3]), ordered(first, CHECKS.length));
            // and alone
            Kit.dueFault(Integer.parseInt(CHECKS[first][3]), ordered(first, first + 1));
        }
        taken(ordered(CHECKS.length, CHECKS.length));
    }

    /** The text with all checks good but those from the first up to the last; @ stands where the first is due. */
    private static String ordered(int first, int last) {
        String text = ORDER;
        for (int k = 0; k < CHECKS.length; k++) {
            boolean bad = k >= first && k < last;
            boolean shared = CHECKS[k][0].equals("<R>") && k < 19 && !bad;
            String part = CHECKS[k][bad ? 2 : 1];
            boolean here = k == first && CHECKS[k][4].equals("$");
            if (!shared) {
                text = text.replace(CHECKS[k][0], (here ? "@" : "") + part);
            }
        }
        if (first < CHECKS.length && CHECKS[first][4].length() == 2) {
            text = text.replace(CHECKS[first][4], "@");
        }
        return text.replaceAll("\\$[A-Z]", "");
    }

    /** new: a comes; C less (a + 1); it is SHOWN; u - 1 comes. */
    private static void inOrderOfANew() {
        String f = "method f(n) needs n >= 0 steps 9 cells n + 9 { var x; a: x = new A; return x; by {7; 9+#0; W} }";
        taken(f.replace("A", "n").replace("W", "8"));
        taken(f.replace("A", "8").replace("W", "#0"));
        taken(f.replace("A", "n").replace("W", "8+0*#1"));
        Kit.dueFault(4, f.replace("A", "n").replace("W", "@8+0*#2"));
        Kit.dueFault(4, f.replace("A", "n").replace("W", "@9"));
        Kit.dueFault(5, f.replace("A", "99999999").replace("x = new", "@x = new").replace("W", "0"));
        Kit.dueFault(4, f.replace("A", "9").replace("W", "@#0"));
        // u - 1 comes, and u is the value
        taken("method f(n) steps 9 cells 9 gives result >= 1 { var x; a: x = new 5; return x; by {7; 9; 3; #1} }");
        Kit.dueFault(4, "method f(n) steps 9 cells 9 gives result >= 2 { var x; a: x = new 5; return x; by {7; 9; 3; @#1} }");
    }

    /** "return a: each of gives .. is SHOWN", one after the other; "5 .. at the jump's likewise". */
    private static void inOrderOfAReturn() {
        String f = "method f(n) needs n >= 0 steps 9 cells 0 gives A >= 0, B >= 0 { var x; a: x = n + 100; return x; by {7; 0; C; D} }";
        taken(f.replace("A", "result").replace("B", "result^2").replace("C", "100+#0").replace("D", "#0*#0+200*#0+10000"));
        Kit.dueFault(4, f.replace("A", "result").replace("B", "result^6").replace("C", "@#0").replace("D", "0"));
        Kit.dueFault(5, f.replace("A", "result^5").replace("B", "result").replace("return", "@return").replace("C", "0").replace("D", "0"));
        Kit.dueFault(5, f.replace("A", "result").replace("B", "result^5").replace("return", "@return").replace("C", "100+#0")
                .replace("D", "0"));
        Kit.dueFault(5, f.replace("A", "result").replace("B", "result").replace("C", "100+#0").replace("D", "@99999999+1"));
        Kit.dueFault(4, f.replace("A", "result").replace("B", "result").replace("C", "100+#0").replace("D", "@#1"));
        Kit.dueFault(4, f.replace("A", "result").replace("B", "result").replace("C", "100+#0").replace("D", "@99+#0"));
    }

    /** "its number (1 without one), not 0". */
    private static void numberOfAWitness() {
        taken(one("fail; by {99; 100}"));
        taken(one("fail; by {1: 99; 00000001: 100}"));
        taken(one("fail; by {2: 198; 999999: 99999900}"));
        Kit.dueFault(4, one("fail; by {@0: 99; 100}"));
        Kit.dueFault(4, one("fail; by {@0: 0; 100}"));
        Kit.dueFault(4, one("fail; by {99; @00000000: 0}"));
        // what is to be SHOWN is 0
        Kit.dueFault(4, "method f() steps 1 cells 0 { a: fail; by {0; @0: 0} }");
        taken("method f() steps 1 cells 0 { a: fail; by {0; 99999999: 0} }");
        // a number, and what it is times
        taken("method f(n) needs 2*n >= 0 steps n + 1 cells 3*n { a: fail; by {2: #0; 2: 3*#0} }");
        Kit.dueFault(4, "method f(n) needs 2*n >= 0 steps n + 1 cells 3*n { a: fail; by {2: #0; @3*#0} }");
        Kit.dueFault(4, "method f(n) needs 2*n >= 0 steps n + 1 cells 3*n { a: fail; by {@#0; 2: 3*#0} }");
    }

    /** "a HYPOTHESIS is not there": in whatever term, and though it is times 0. */
    private static void hypothesesThatAreNotThere() {
        String none = "method f() steps 1 cells 0 { a: fail; by {W; 0} }";
        Kit.dueFault(4, none.replace("W", "@#0"));
        Kit.dueFault(4, none.replace("W", "@0*#0"));
        taken(none.replace("W", "0"));
        for (String terms : new String[] {"#1", "0*#1", "#0*#1", "#1*#0", "0*#0*#0*#0*#1", "99+#1", "99+0*#1", "0*#1+99", "99+0*#0*#1+0",
            "#99999999", "0*#99999999", "2: 0*#1", "#1*#1*#1*#1", "99+0*#00000001"}) {
            Kit.dueFault(4, one("fail; by {@" + terms + "; 100}"));
        }
        for (String terms : new String[] {"99", "99+0*#0", "0*#0+99", "0*#0*#0*#0*#0+99", "99+0*#00000000", "2: 198+0*#0"}) {
            taken(one("fail; by {" + terms + "; 100}"));
        }
    }

    /** Of each witness how many HYPOTHESES are there: the last one is, the next one is not. */
    private static void hypothesesAsTheyCome() {
        String text = "method f(n) needs n >= 0, n <= 50 steps 100 cells 200 { var x,y,z; a: x = n / 2; y = n % 3; x = len y;"
                + " x = x[n]; y[n] = x; z = read; x = new n; y = g(2); z = n * 2; if x R z goto b else c; by {90; 200; 149+#1;"
                + " 4; 7; 85; 148+#1; #0; 84; 148+#1; 83; 148+#1}"
                + " b keeps n >= 0 left 1, 0: fail; by {0; 0} c left 2, 0: fail; by {1; 0} }" + G;
        String[] relations = {"<", "<=", ">", ">=", "==", "!="};
        for (String rel : relations) {
            int so = rel.equals("==") ? 2 : rel.equals("!=") ? 0 : 1;
            int notSo = rel.equals("==") ? 0 : rel.equals("!=") ? 2 : 1;
            // needs, 2; /, 2; %, 2; len, x[n], y[n] = x, new, 1 each; u - 1; then two that g gives
            int[] there = {2, 2, 10, 11, 11, 11, 11, 13 + so, 13 + so, 13 + so, 13 + notSo, 13 + notSo};
            String whole = text.replace("R", rel);
            BoundHouse house = Kit.taken(whole);
            for (int i = 0; i < there.length; i++) {
                Kit.due("HYPOTHESES of " + i + " with " + rel, house.shown(i, 2), there[i]);
                int place = house.shown(i, 0);
                int end = Math.min(endOf(whole, place, ';'), endOf(whole, place, '}'));
                taken(whole.substring(0, end) + "+0*#" + (there[i] - 1) + whole.substring(end));
                Kit.dueFault(whole.substring(0, end) + "+0*#" + there[i] + whole.substring(end), 4, place);
            }
            // what a block keeps comes behind the needs
            Kit.due("HYPOTHESES at b", house.shown(12, 2), 3);
            Kit.due("HYPOTHESES at c", house.shown(14, 2), 2);
        }
    }

    private static int endOf(String text, int from, char sign) {
        return text.indexOf(sign, from);
    }

    /** "4 at its first token: its number is 0, a HYPOTHESIS is not there; 5 there: ..; 4: they differ". */
    private static void whatIsLookedAtFirst() {
        // 4 though the poly times the number, or a term, is TOO BIG; 5 though they differ
        Kit.dueFault(4, one("fail; by {@99999999: #1; 100}"));
        Kit.dueFault(4, one("fail; by {@99999999+1+#1; 100}"));
        Kit.dueFault(4, one("fail; by {@0: 99999999+1; 100}"));
        Kit.dueFault(5, one("fail; by {@99999999: 1; 100}"));
        Kit.dueFault(5, one("fail; by {@99999999+1; 100}"));
        Kit.dueFault(5, one("fail; by {@99999999: 99999999+1; 100}"));
        // a term that is TOO BIG, though another one is ahead of it that makes them differ
        Kit.dueFault(5, one("fail; by {@5+99999999; 100}"));
        Kit.dueFault(5, "method f(n) needs n^6 >= 0 steps 9 cells 0 { a: fail; by {@5+#0*#0; 0} }");
    }

    /** "they differ": by a coefficient, a sign, a power, a SYMBOL, a term more or less. */
    private static void whenTheyDiffer() {
        String f = "method f(n,m) needs n >= 0, m >= 0, n*m >= 0, -n >= 0 steps 9 cells 3*n*m + 2*n { a: fail; by {8; W} }";
        for (String same : new String[] {"3*#2+2*#0", "2*#0+3*#2", "3*#0*#1+#0+#0", "1*#0*#1+2*#2+2*#0", "2: 6*#2+4*#0",
            "3*#2+2*#0+5*#0+5*#3", "3*#2+2*#0+0*#1+0"}) {
            taken(f.replace("W", same));
        }
        for (String other : new String[] {"3*#2+#0", "2*#2+2*#0", "3*#2+2*#3", "3*#0*#0+2*#0", "3*#2+2*#1", "3*#2", "2*#0",
            "3*#2+2*#0+1", "3*#2+2*#0+#1", "0", "2: 3*#2+2*#0", "6*#2+4*#0", "3*#1*#1+2*#0", "3*#0*#1*#1+2*#0", "3*#2+2*#0*#0"}) {
            Kit.dueFault(4, f.replace("W", "@" + other));
        }
    }

    /** "SYMBOLS of a block: 0 .. 5 the method's params, then locals, in their order; 6 .. 15 what its statements 0 .. 9 bring". */
    private static void symbols() {
        BoundHouse house = Kit.taken("method f(p,q) needs p >= 0, q >= 0 steps 100 cells 0 { var u,v,w,x; a: goto b;"
                + " by {99; 0; 2*#0+#0*#1; 0; 87; 0} b keeps 2*p + p*q + 3*u + 4*v^2 + 5*w + 6*x >= 0, x >= 0 left 12, 0:"
                + " u = read; v = p / 7; w = p % 7; x = len p; x = p[0]; u = read; v = read; w = read; x = read; x = len x;"
                + " goto c; by {1; 0; #10; 0; 0} c keeps x >= 0 left 1, 0: fail; by {0; 0} }");
        int[][] powers = {{0, 1}, {1, 1}, {2, 1}, {3, 2}, {4, 1}, {5, 1}};
        // of what b keeps, as it is PUT at the goto: u, v, w and x are 0 at the first block
        Kit.due("terms with locals of 0", house.shown(2, 3), 2);
        Kit.due("p*q comes first", house.term(2, 0, 1), 1);
        // the tenth statement brings SYMBOL 15
        Kit.due("SYMBOL 15", house.term(8, 0, 15), 1);
        Kit.due("SYMBOL 15, its coefficient", house.term(8, 0, -1), 1);
        Kit.due("SYMBOL 15 alone", house.shown(8, 3), 1);
        // each name has its SYMBOL at another block's beginning
        house = Kit.taken("method f(p,q) steps 100 cells 0 { var u,v,w,x; a: goto b; by {99; 0; 0; 95; 0}"
                + " b keeps x + 2*w + 3*v^2 + 4*u >= 0 left 4, 0: goto c; by {3; 0; #0; 0; 0}"
                + " c keeps x + 2*w + 3*v^2 + 4*u >= 0 left 3, 0: fail; by {2; 0} }");
        int[] order = {3, 2, 4, 5};
        int[] coefs = {3, 4, 2, 1};
        for (int k = 0; k < order.length; k++) {
            Kit.due("coefficient " + k, house.term(7, k, -1), coefs[k]);
            for (int s = 0; s < 16; s++) {
                Kit.due("power of " + s + " in " + k, house.term(7, k, s), s == order[k] ? powers[order[k]][1] : 0);
            }
        }
    }

    /** "6 .. 15 what its statements 0 .. 9 bring": of len, each of them. */
    private static void symbolsOfStatements() {
        for (int k = 0; k < 10; k++) {
            StringBuilder body = new StringBuilder();
            for (int i = 0; i < 10; i++) {
                body.append(i == k ? "x = len n; " : "y = n; ");
            }
            BoundHouse house = Kit.taken("method f(n) steps 11 cells 0 gives result >= 0 { var x,y; a: " + body
                    + "return x; by {0; 0; #0} }");
            for (int what = -4; what < 24; what++) {
                Kit.due("statement " + k + ", term(2, 0, " + what + ")", house.term(2, 0, what), what == -1 || what == 6 + k ? 1 : 0);
            }
        }
    }

    /** "a / n ..: a - n q, then n q + n - 1 - a come. a % n: r; r, then n - 1 - r." */
    private static void whatQuotientsAndRestsBring() {
        String f = "method f(n) steps 9 cells 0 gives W { var x; a: x = n O 7; return x; by {7; 0; #0; #1} }";
        taken(f.replace("O", "/").replace("W", "n - 7*result >= 0, 7*result + 6 - n >= 0"));
        Kit.dueFault(4, f.replace("O", "/").replace("W", "n - 7*result >= 0, 7*result + 7 - n >= 0").replace("#1", "@#1"));
        Kit.dueFault(4, f.replace("O", "/").replace("W", "n - 6*result >= 0, 7*result + 6 - n >= 0").replace("#0", "@#0"));
        taken(f.replace("O", "%").replace("W", "result >= 0, 6 >= result"));
        Kit.dueFault(4, f.replace("O", "%").replace("W", "result >= 0, 5 >= result").replace("#1", "@#1"));
        Kit.dueFault(4, f.replace("O", "%").replace("W", "result >= 1, 6 >= result").replace("#0", "@#0"));
        Kit.dueFault(4, f.replace("O", "%").replace("W", "n >= 0, 6 >= n").replace("#0", "@#0"));
        // by 1 nothing is left
        taken(f.replace("O 7", "% 1").replace("W", "result >= 0, 0 >= result"));
        taken(f.replace("O 7", "/ 1").replace("W", "n >= result, result >= n"));
    }

    /** "a local at that of the first block 0". */
    private static void localsAtTheFirstBlock() {
        String first = "method f(n) steps 9 cells 0 gives result >= 0, result <= 0 { var x,y; a: ";
        taken(first + "return x; by {8; 0; 0; 0} }");
        taken(first + "x = x + y; return x; by {7; 0; 0; 0} }");
        Kit.dueFault(4, first + "return n; by {8; 0; @0; 0} }");
        Kit.dueFault(4, first + "goto b; by {8; 0; 7; 0} b left 1, 0: return x; by {0; 0; @0; 0} }");
        Kit.dueFault(4, first + "x = read; return x; by {7; 0; @0; 0} }");
    }

    /** "what rel tells comes, TO x; that goes, what it tells if it is not so comes, TO y". */
    private static void whatComesAndGoes() {
        String f = "method f(n) steps 9 cells 0 { a: if n < 3 goto b else c; by {8; 0; W; 7; 0; V; 7; 0}"
                + " b keeps n <= 2 left 1, 0: fail; by {0; 0} c keeps n >= 3 left 1, 0: fail; by {0; 0} }";
        taken(f.replace("W", "#0").replace("V", "#0"));
        Kit.dueFault(4, f.replace("W", "#0").replace("V", "@#1"));
        Kit.dueFault(4, f.replace("W", "@#1").replace("V", "#0"));
        Kit.dueFault(4, f.replace("n >= 3", "n <= 2").replace("W", "#0").replace("V", "@#0"));
        // a value that is set anew is not what it was: what came of the old one stays
        taken("method f(n) steps 9 cells 0 gives result >= 0 { var x,y; a: x = len n; y = x; x = -5; return y; by {5; 0; #0} }");
        Kit.dueFault(4, "method f(n) steps 9 cells 0 gives result >= 0 { var x,y; a: x = len n; y = x; x = -5; return x; by {5; 0; @#0} }");
    }

    /** "S and C: what is left": at the first block the method's, else the block's; and what a call takes of both. */
    private static void stepsAndCellsThatAreLeft() {
        taken("method f(n) needs n >= 0 steps n + 1 cells 2*n { a: fail; by {#0; 2*#0} }");
        Kit.dueFault(4, "method f(n) needs n >= 0 steps n cells 2*n { a: fail; by {@#0; 2*#0} }");
        Kit.dueFault(4, "method f(n) needs n >= 0 steps n + 1 cells 2*n - 1 { a: fail; by {#0; @2*#0} }");
        // as many as the statements and one are enough, one less is not
        taken("method f() steps 4 cells 0 { var x; a: x = 1; x = 2; x = 3; fail; by {0; 0} }");
        Kit.dueFault(4, "method f() steps 3 cells 0 { var x; a: x = 1; x = 2; x = 3; fail; by {@0; 0} }");
        // new 4 takes 5 cells
        taken("method f() steps 2 cells 5 { var x; a: x = new 4; fail; by {0; 5; 0} }");
        Kit.dueFault(4, "method f() steps 2 cells 4 { var x; a: x = new 4; fail; by {0; 4; @0} }");
        // a call takes its method's steps beside its own one, and its cells
        String f = "method f() steps S cells C { var x; a: x = g(2); fail; by {W; V; 4; 7; 0; 0} }" + G;
        taken(f.replace("S", "7").replace("C", "1").replace("W", "5").replace("V", "1"));
        Kit.dueFault(4, f.replace("S", "6").replace("C", "1").replace("W", "4").replace("V", "1").replace("7; 0; 0}", "7; @0; 0}"));
        Kit.dueFault(4, f.replace("S", "7").replace("C", "0").replace("W", "5").replace("V", "0").replace("7; 0; 0}", "7; 0; @0}"));
        // and a jump needs what is left at its goal
        String b = "method f() steps 3 cells 1 { a: goto b; by {2; 1; 0; 0} b left 2, 1: fail; by {1; 1} }";
        taken(b);
        Kit.dueFault(4, b.replace("steps 3", "steps 2").replace("{2; 1; 0", "{1; 1; @0"));
        Kit.dueFault(4, b.replace("cells 1", "cells 0").replace("{2; 1; 0; 0", "{2; 0; 0; @0"));
        Kit.dueFault(4, b.replace("left 2", "left 0").replace("{2; 1; 0", "{2; 1; 2").replace("{1; 1}", "{@0; 1}"));
        // what is below 0 at the beginning is not SHOWN, though nothing takes any of it
        Kit.dueFault(4, "method f() steps 1 cells -1 { a: fail; by {0; @0} }");
    }
}
