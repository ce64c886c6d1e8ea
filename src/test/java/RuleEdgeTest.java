import java.util.Collections;

/** Terms, chapter II: for each of its sentences that names an edge a test; the sign @ stands at the place that is due. */
public final class RuleEdgeTest {
    private static final String BODY = " { a: fail; by {0; 0} }";
    private static final String[] LOCALS = {"u", "v", "w", "x", "y", "z", "t"};

    public static void main(String[] args) {
        ruleIfThereIsNoOther();
        namesThatAreThereTwice();
        namesThatAreNoParams();
        resultWhereItStandsNot();
        namesThatAreNoParamsOrLocals();
        targetsThatAreNoLocals();
        methodsThatAreNotThere();
        blocksThatAreNotThere();
        atomsInACall();
        powers();
        divisors();
        methodLimits();
        nameLimits();
        blockLimits();
        statementLimits();
        condLimits();
        witnessLimits();
        termLimits();
        hypLimits();
        monoLimits();
        factorLimits();
        leastPlace();
        Kit.end();
    }

    private static void taken(String text) {
        Kit.dueFault(text, 0, -1);
    }

    private static String times(int n, String part, String between) {
        return String.join(between, Collections.nCopies(n, part));
    }

    /** A method in which all is taken but the body. */
    private static String one(String body) {
        return "method f(n) needs n >= 0 steps 100 cells 100 { var x,y,z; a: " + body + " }";
    }

    /** "FAULT 2, if there is no other": SYNTAX goes ahead of it, wherever that is. */
    private static void ruleIfThereIsNoOther() {
        Kit.dueFault(2, "method f(n,@n) steps 1 cells 0" + BODY);
        Kit.dueFault(1, "method f(n,n) steps 1 cells 0" + BODY + "@n");
        Kit.dueFault(1, "method f(n,n) steps 1 cells @; 0" + BODY);
        Kit.dueFault("method f(n,n) steps 1 cells 0 { a: fail; by {0; 0}", 1, 50);
        Kit.dueFault(2, "method f(n) steps 99999999*2 cells @m { a: fail; by {0; 0; 0} }");
        Kit.dueFault(2, "method f(n) steps 1 cells 0 { a: fail; by {1; 0; 0} } method @f(n) steps 1 cells 0" + BODY);
    }

    /** "Methods have unlike names; params and locals (behind var) of a method together; its blocks (at the second one)." */
    private static void namesThatAreThereTwice() {
        String f = "method f() steps 1 cells 0" + BODY + " ";
        String g = "method g() steps 1 cells 0" + BODY + " ";
        taken(f + g);
        Kit.dueFault(2, f + f.replace(" f", " @f"));
        Kit.dueFault(2, f + g + f.replace(" f", " @f"));
        Kit.dueFault(2, f + g + g.replace(" g", " @g") + f + g);
        taken("method f(a,b,c) steps 1 cells 0" + BODY);
        Kit.dueFault(2, "method f(a,@a) steps 1 cells 0" + BODY);
        Kit.dueFault(2, "method f(a,b,@a) steps 1 cells 0" + BODY);
        Kit.dueFault(2, "method f(a,b,@b) steps 1 cells 0" + BODY);
        Kit.dueFault(2, "method f(a,@a,a) steps 1 cells 0" + BODY);
        taken("method f(a,b) steps 1 cells 0 { var c,d; a: fail; by {0; 0} }");
        Kit.dueFault(2, "method f(a,b) steps 1 cells 0 { var @a,d; a: fail; by {0; 0} }");
        Kit.dueFault(2, "method f(a,b) steps 1 cells 0 { var c,@b; a: fail; by {0; 0} }");
        Kit.dueFault(2, "method f(a,b) steps 1 cells 0 { var c,@c; a: fail; by {0; 0} }");
        Kit.dueFault(2, "method f(a,b) steps 1 cells 0 { var c,d,@c; a: fail; by {0; 0} }");
        String last = "left 1, 0: fail; by {0; 0} ";
        taken(one("fail; by {99; 100} b " + last + "c " + last));
        Kit.dueFault(2, one("fail; by {99; 100} @a " + last));
        Kit.dueFault(2, one("fail; by {99; 100} b " + last + "@b " + last));
        Kit.dueFault(2, one("fail; by {99; 100} b " + last + "@a " + last + "b " + last));
        Kit.dueFault(2, one("fail; by {99; 100} b " + last + "c " + last + "@b " + last + "c " + last));
        // of methods that are not one the names do not meet; nor those of methods, params and blocks
        taken("method f(a) steps 1 cells 0 { var b; a: fail; by {0; 0} } method a(a) steps 1 cells 0 { var b; b: fail;"
                + " by {0; 0} }");
        taken("method f(f) steps 1 cells 0 { var a; f: fail; by {0; 0} }");
    }

    /** "A name that is not there (at it): in needs, steps, cells a param; in gives a param". */
    private static void namesThatAreNoParams() {
        String locals = " { var x; a: fail; by {0; 0} }";
        String[] heads = {"needs @q >= 0 steps 1 cells 0", "needs 0 <= @q steps 1 cells 0", "needs n + 2*@q >= 0 steps 1 cells 0",
            "needs n >= 0, n*n >= @q steps 1 cells 0", "steps @q cells 0", "steps 1 + n*@q cells 0", "steps 1 cells @q",
            "steps 1 cells -@q^2", "steps 1 cells 0 gives @q >= 0", "steps 1 cells 0 gives 0 <= @q",
            "steps 1 cells 0 gives result >= 0, result*@q >= 0"};
        for (String head : heads) {
            // no name at all, a local, the method, a block, a param of another method
            for (String name : new String[] {"q", "x", "f", "a", "m"}) {
                Kit.dueFault(2, "method f(n) " + head.replace("q", name) + locals + " method g(m) steps 1 cells 0" + BODY);
            }
            Kit.due("a param, in " + head, judged("method f(n,q) " + head.replace("@", "") + locals) == 2 ? 2 : 0, 0);
        }
    }

    private static int judged(String text) {
        return Kit.judge(new BoundHouse(), text);
    }

    /** "or result (which stands nowhere else: at it)". */
    private static void resultWhereItStandsNot() {
        String[] heads = {"needs @result >= 0 steps 1 cells 0", "needs 0 >= n*@result steps 1 cells 0", "steps @result cells 0",
            "steps 1 + @result^2 cells 0", "steps 1 cells @result"};
        for (String head : heads) {
            Kit.dueFault(2, "method f(n) " + head + BODY);
        }
        String[] places = {"keeps @result >= 0 left 1, 0", "keeps 0 <= 2*@result left 1, 0", "left @result, 0", "left 1, @result"};
        for (String place : places) {
            Kit.dueFault(2, one("fail; by {99; 100} b " + place + ": fail; by {0; 0}"));
        }
        taken("method f(n) steps 1 cells 0 gives result >= 0, 1 <= result^2 + n*result" + BODY);
        taken("method f() steps 1 cells 0 gives result >= 0" + BODY);
        // and it is no atom
        Kit.dueFault(1, one("x = @result; fail;"));
        Kit.dueFault(1, one("return @result;"));
    }

    /** "in keeps, left and atoms, and ahead of [ a param or local". */
    private static void namesThatAreNoParamsOrLocals() {
        String[] blocks = {"keeps @q >= 0 left 1, 0", "keeps 0 <= @q left 1, 0", "keeps x >= 0, n*@q >= 0 left 1, 0",
            "left @q, 0", "left 1, @q", "left 1, n*x^2*@q"};
        for (String place : blocks) {
            dueName("fail; b " + place + ": fail;");
        }
        String[] statements = {"x = @q;", "x = @q + 1;", "x = 1 + @q;", "x = @q - x;", "x = x - @q;", "x = @q * x;", "x = x * @q;",
            "x = @q / 2;", "x = @q % 2;", "x = new @q;", "x = len @q;", "x = f(@q);", "x = x[@q];", "x = @q[x];", "x = @q[1];",
            "@q[1] = 1;", "x[@q] = 1;", "x[1] = @q;"};
        for (String statement : statements) {
            dueName(statement + " fail;");
        }
        String tail = " goto b else b; b left 1, 0: fail;";
        dueName("if @q < 1" + tail);
        dueName("if 1 < @q" + tail);
        dueName("return @q;");
    }

    /** With the name q a rule is broken, also if that is a method, a block, or a name of another method; else it is not. */
    private static void dueName(String body) {
        for (String name : new String[] {"q", "f", "a", "m"}) {
            Kit.dueFault(2, one(body.replace("@q", "@" + name)) + " method g(m) steps 1 cells 0" + BODY);
        }
        for (String name : new String[] {"n", "z"}) {
            Kit.due("the name " + name + " in " + body, judged(one(body.replace("@q", name))) == 2 ? 2 : 0, 0);
        }
    }

    /** "ahead of = a local". */
    private static void targetsThatAreNoLocals() {
        for (String exp : new String[] {"1", "n", "n + 1", "n / 2", "new 1", "len n", "read", "f(1)", "n[0]"}) {
            for (String name : new String[] {"n", "q", "f", "a", "m"}) {
                Kit.dueFault(2, one("@" + name + " = " + exp + "; fail;") + " method g(m) steps 1 cells 0" + BODY);
            }
            Kit.due("a local is set to " + exp, judged(one("z = " + exp + "; fail;")) == 2 ? 2 : 0, 0);
        }
        Kit.dueFault(2, "method f(a,b,c) steps 9 cells 0 { var x; a: x = c; @c = x; fail; by {6; 0} }");
        taken("method f(a,b,c) steps 9 cells 0 { var x; a: x = c; x = x; fail; by {6; 0} }");
        taken("method f(a,b,c) steps 9 cells 0 { a: c[0] = a; fail; by {7; 0} }");
    }

    /** "ahead of ( a method". */
    private static void methodsThatAreNotThere() {
        for (String name : new String[] {"q", "n", "x", "a"}) {
            Kit.dueFault(2, one("x = @" + name + "(1); fail;"));
        }
        taken(one("x = g(); fail; by {98; 100; 97; 100}") + " method g() steps 1 cells 0" + BODY);
        taken("method g() steps 1 cells 0" + BODY + one("x = g(); fail; by {98; 100; 97; 100}"));
        taken("method f(n) needs n >= 0 steps 9*n + 20 cells 0 { var x; a: x = g(0); fail; by {18+9*#0; 0; 0; 17+9*#0; 0} }"
                + " method g(n) needs n >= 0 steps 1 cells 0" + BODY);
        // it calls itself, but has not the steps for it
        Kit.dueFault(4, "method f(n) needs n >= 0 steps 9*n + 2 cells 0 { var x; a: x = f(0); fail;"
                + " by {9*#0; 0; 0; @9*#0; 0} }");
    }

    /** "behind goto and else a block of the method, not the first". */
    private static void blocksThatAreNotThere() {
        String b = " b left 1, 0: fail; by {0; 0}";
        String g = " method g() steps 1 cells 0 { a: fail; by {0; 0} c left 1, 0: fail; by {0; 0} }";
        taken(one("goto b; by {99; 100; 98; 100}" + b) + g);
        for (String name : new String[] {"a", "c", "f", "n", "q"}) {
            Kit.dueFault(2, one("goto @" + name + "; by {99; 100; 98; 100}" + b) + g);
            Kit.dueFault(2, one("if n < 1 goto @" + name + " else b; by {99; 100; 98; 100; 98; 100}" + b) + g);
            Kit.dueFault(2, one("if n < 1 goto b else @" + name + "; by {99; 100; 98; 100; 98; 100}" + b) + g);
            Kit.dueFault(2, one("fail; by {99; 100} b left 1, 0: goto @" + name + ";") + g);
        }
        taken(one("if n < 1 goto b else b; by {99; 100; 98; 100; 98; 100}" + b) + g);
        // to itself, and to what stands ahead of it
        Kit.dueFault(4, one("fail; by {99; 100} b left 1, 0: goto b; by {0; 0; @0; 0}"));
        Kit.dueFault(4, one("fail; by {99; 100} b left 1, 0: fail; by {0; 0} c left 1, 0: goto b; by {0; 0; @0; 0}"));
    }

    /** "As many atoms in a call as params (at its name)." */
    private static void atomsInACall() {
        String[] params = {"", "p", "p,q", "p,q,r"};
        for (int have = 0; have <= 3; have++) {
            String g = " method g(" + params[have] + ") steps 1 cells 0" + BODY;
            for (int atoms = 0; atoms <= 6; atoms++) {
                String call = "x = @g(" + times(atoms, atoms % 2 == 0 ? "n" : "-1", ",") + "); fail; by {98; 100; 97; 100}";
                if (atoms == have) {
                    taken(one(call.replace("@", "")) + g);
                    taken(g + one(call.replace("@", "")));
                } else {
                    Kit.dueFault(2, one(call) + g);
                    Kit.dueFault(2, g + one(call));
                }
            }
        }
        Kit.dueFault(2, one("x = @f(); fail;"));
        Kit.dueFault(2, one("x = @f(n,x); fail;"));
    }

    /** "A number behind ^ is 1 .. 6 (at it)". */
    private static void powers() {
        String[] places = {"needs n^@P >= 0 steps 9 cells 0", "needs 0 >= 2*n^@P steps 9 cells 0", "steps n^@P cells 0",
            "steps 1 cells 1 - n^@P", "steps 9 cells 0 gives n^@P >= 0", "steps 9 cells 0 gives result^@P >= 0"};
        for (String place : places) {
            for (String wrong : new String[] {"0", "7", "8", "9", "10", "00000000", "00000007", "99999999"}) {
                Kit.dueFault(2, "method f(n) " + place.replace("P", wrong) + BODY);
            }
            for (String right : new String[] {"1", "2", "3", "4", "5", "6", "00000001", "00000006"}) {
                Kit.due("^" + right + " in " + place,
                        judged("method f(n) " + place.replace("@P", right) + BODY) == 2 ? 2 : 0, 0);
            }
        }
        Kit.dueFault(2, one("fail; b keeps x^@7 >= 0 left 1, 0: fail;"));
        Kit.dueFault(2, one("fail; b left x^@0, 0: fail;"));
        Kit.dueFault(2, one("fail; b left 1, x^@7: fail;"));
        taken("method f(n) needs n^6 >= 0, n^1 >= 0 steps n^6 + n^1 + 1 cells 0 { a: fail; by {#0+#1; 0} }");
    }

    /** "one behind / or % is not 0 (at it)". */
    private static void divisors() {
        for (String sign : new String[] {"/", "%"}) {
            for (String zero : new String[] {"0", "00", "00000000"}) {
                Kit.dueFault(2, one("x = n " + sign + " @" + zero + "; fail;"));
                Kit.dueFault(2, one("x = 0 " + sign + " @" + zero + "; fail;"));
            }
            for (String fit : new String[] {"1", "00000001", "99999999"}) {
                taken(one("x = n " + sign + " " + fit + "; fail; by {98; 100}"));
            }
        }
    }

    private static String methods(int n) {
        StringBuilder text = new StringBuilder();
        for (int m = 0; m < n; m++) {
            text.append(m == 12 ? "@" : "").append("method f").append(m).append("() steps 1 cells 0").append(BODY);
        }
        return text.toString();
    }

    /** "LIMITS, at the first token of what is one too many: 12 methods". */
    private static void methodLimits() {
        for (int n = 0; n <= 12; n++) {
            taken(methods(n));
        }
        BoundHouse house = Kit.taken(methods(12));
        Kit.due("12 methods", house.count(0), 12);
        Kit.due("12 methods, the last runs", house.run(11, 0, 0, 0), 1);
        Kit.due("12 methods, there is no thirteenth", house.run(12, 0, 0, 0), -1);
        Kit.dueFault(2, methods(13));
        Kit.dueFault(2, methods(15));
    }

    /** "3 params, 6 names of a method (params and locals)". */
    private static void nameLimits() {
        String[] params = {"", "a", "a,b", "a,b,c"};
        for (int p = 0; p <= 3; p++) {
            String head = "method f(" + params[p] + ") steps 1 cells 0 { ";
            for (int locals = 0; locals <= 7 && p + locals <= 7; locals++) {
                StringBuilder names = new StringBuilder();
                for (int k = 0; k < locals; k++) {
                    names.append(k == 0 ? "var " : ",").append(p + k == 6 ? "@" : "").append(LOCALS[k]);
                }
                String text = head + names + (locals == 0 ? "" : ";") + " a: fail; by {0; 0} }";
                if (p + locals <= 6) {
                    taken(text);
                } else {
                    Kit.dueFault(2, text);
                }
            }
        }
        Kit.dueFault(2, "method f(a,b,c,@d) steps 1 cells 0" + BODY);
        Kit.dueFault(2, "method f(a,b,c,@d,e) steps 1 cells 0" + BODY);
        Kit.dueFault(2, "method f(a,b,c,@d,e,g,h) steps 1 cells 0 { var x; a: fail; by {0; 0} }");
        Kit.dueFault(2, "method f(a) steps 1 cells 0 { var u,v,w,x,y,@z,t; a: fail; by {0; 0} }");
        // all six are there
        BoundHouse house = Kit.taken("method f(a,b,c) steps 9 cells 0 { var x,y,z; a: x = a * 100; y = b * 10; z = x + y;"
                + " z = z + c; return z; by {4; 0} }");
        house.run(0, 1, 2, 3);
        Kit.due("six names", house.result(), 123);
    }

    private static String blocks(int n) {
        StringBuilder text = new StringBuilder("fail; by {99; 100}");
        for (int b = 1; b < n; b++) {
            text.append(b == 20 ? " @b" : " b").append(b).append(" left 1, 0: fail; by {0; 0}");
        }
        return one(text.toString());
    }

    /** "20 blocks of a method": the first is one of them. */
    private static void blockLimits() {
        taken(blocks(1));
        taken(blocks(19));
        taken(blocks(20));
        Kit.due("20 blocks", Kit.taken(blocks(20)).count(1), 20);
        Kit.dueFault(2, blocks(21));
        Kit.dueFault(2, blocks(23));
        // of each method anew
        taken(blocks(20) + blocks(20).replace("method f", "method g"));
        String chain = blocks(20).replace("b18 left 1, 0: fail; by {0; 0}", "b18 left 2, 0: goto b19; by {1; 0; 0; 0}")
                .replace("fail; by {99; 100}", "goto b18; by {99; 100; 97; 100}");
        BoundHouse house = Kit.taken(chain);
        Kit.due("the 20th block is gone to", house.run(0, 0, 0, 0), 1);
        Kit.due("the 20th block, its place", house.about(5), chain.lastIndexOf("fail"));
    }

    /** "10 statements of a block". */
    private static void statementLimits() {
        String[] kinds = {"x = 1;", "x = n + 1;", "x[0] = 1;", "x = read;", "x = x / 2;"};
        for (String kind : kinds) {
            for (int n = 0; n <= 10; n++) {
                taken(one(times(n, kind + " ", "") + "fail; by {" + (99 - n) + "; 100}"));
            }
            Kit.dueFault(2, one(times(10, kind + " ", "") + "@" + kind + " fail; by {88; 100}"));
            Kit.dueFault(2, one(times(10, kind + " ", "") + "@" + kind + kind + kind + " fail; by {88; 100}"));
        }
        Kit.dueFault(2, one("fail; by {99; 100} b left 20, 0: " + times(10, "x = 1; ", "") + "@x = 1; fail; by {8; 0}"));
        taken(one("fail; by {99; 100} b left 20, 0: " + times(10, "x = 1; ", "") + "fail; by {9; 0}"));
        // the tenth brings SYMBOL 15
        BoundHouse house = Kit.taken("method f() steps 11 cells 0 gives result >= 0 { var x; a: " + times(9, "x = 1; ", "")
                + "x = len x; return x; by {0; 0; #0} }");
        Kit.due("the tenth statement's SYMBOL", house.term(2, 0, 15), 1);
    }

    /** "6 conds in one row". */
    private static void condLimits() {
        String[] rows = {"method f(n) needs R steps 1 cells 0" + BODY, "method f(n) steps 1 cells 0 gives R" + BODY,
            one("fail; by {99; 100} b keeps R left 1, 0: fail; by {0; 0}")};
        for (String row : rows) {
            for (String cond : new String[] {"1 >= 0", "0 <= n", "-n + 2 >= -1"}) {
                for (int n = 1; n <= 6; n++) {
                    taken(row.replace("R", times(n, cond, ", ")));
                }
                Kit.dueFault(2, row.replace("R", times(6, cond, ", ") + ", @" + cond));
                Kit.dueFault(2, row.replace("R", times(6, cond, ", ") + ", @" + cond + ", " + cond));
            }
        }
        String six = times(6, "n >= 0", ", ");
        taken("method f(n) needs " + six + " steps 1 cells 0 gives " + six + BODY);
    }

    /** "40 witnesses of a block": as many are wanted by four calls' and goals' six conds with two more each, and a new. */
    private static void witnessLimits() {
        String six = times(6, "1 >= 0", ", ");
        String g = " method g() needs " + six + " steps 1 cells 0" + BODY;
        String calls = times(3, "x = g(); ", "") + "x = g();";
        // 2 + 4 * 8 = 34, and six of a row that is kept less two: goto b with four conds
        String text = "method f() steps 100 cells 100 { var x; a: " + calls + " goto b; by {95; 100; " + times(6, "1", ";")
                + "; 94; 100; " + times(6, "1", ";") + "; 93; 100; " + times(6, "1", ";") + "; 92; 100; " + times(6, "1", ";")
                + "; 91; 100; " + times(4, "1", ";") + "; 90; 100} b keeps " + times(4, "1 >= 0", ", ")
                + " left 1, 0: fail; by {0; 0} }";
        taken(text + g);
        Kit.due("40 witnesses of a block", Kit.taken(text + g).count(2), 44);
        Kit.dueFault(2, (text + g).replace("; 90; 100}", "; 90; 100; @0}"));
        Kit.dueFault(2, (text + g).replace("; 90; 100}", "; 90; 100; @#0*#0; 0}"));
        Kit.dueFault(2, (text + g).replace("; 90; 100}", "; 90; 100; @1: #0*#0; 0; 0}"));
        Kit.dueFault(3, one("fail; @by {" + times(39, "0", ";") + "}"));
        Kit.dueFault(3, one("fail; @by {" + times(40, "0", ";") + "}"));
        Kit.dueFault(2, one("fail; by {" + times(40, "0", ";") + ";@0}"));
    }

    /** "20 terms of a witness". */
    private static void termLimits() {
        for (int n = 1; n <= 20; n++) {
            taken(one("fail; by {" + times(n, "0", "+") + "+99; 100}").replace("{0+", "{"));
            taken(one("fail; by {7: " + times(n - 1, "0*#0+", "") + "693; 100}"));
        }
        for (String term : new String[] {"0", "0*#0", "#0", "3*#0*#0"}) {
            Kit.dueFault(4, one("fail; by {@" + times(20, "5", "+") + "; 100}"));
            Kit.dueFault(2, one("fail; by {" + times(20, "5", "+") + "+@" + term + "; 100}"));
            Kit.dueFault(2, one("fail; by {2: " + times(20, "5", "+") + "+@" + term + "; 100}"));
            Kit.dueFault(2, one("fail; by {" + times(20, "5", "+") + "+@" + term + "+" + term + "; 100}"));
        }
        Kit.due("20 terms", Kit.taken(one("fail; by {" + times(19, "5", "+") + "+4; 100}")).shown(0, 5), 20);
    }

    /** "4 hyps of a term". */
    private static void hypLimits() {
        String head = "method f(n) needs n >= 0 steps 1 + ";
        for (int n = 1; n <= 4; n++) {
            String hyps = times(n, "#0", "*");
            taken(head + "n^" + n + " cells 0 { a: fail; by {" + hyps + "; 0} }");
            taken(head + "3*n^" + n + " cells 0 { a: fail; by {3*" + hyps + "; 0} }");
        }
        for (String ahead : new String[] {"", "1*", "0*", "2: ", "2: 3*", "5+", "#0+"}) {
            Kit.dueFault(2, one("fail; by {" + ahead + "#0*#0*#0*#0*@#0; 100}"));
            Kit.dueFault(2, one("fail; by {" + ahead + "#0*#0*#0*#0*@#0*#0; 100}"));
        }
    }

    /** "20 monos of a poly". */
    private static void monoLimits() {
        String[] places = {"method f(n) needs P >= 0 steps 1 cells 0" + BODY, "method f(n) needs 0 <= P steps 1 cells 0" + BODY,
            "method f(n) steps P cells 0" + BODY, "method f(n) steps 1 cells P" + BODY,
            "method f(n) steps 1 cells 0 gives P >= 0" + BODY, "method f(n) steps 1 cells 0 gives 0 >= P" + BODY,
            one("fail; b keeps P >= 0 left 1, 0: fail;"), one("fail; b keeps 0 >= P left 1, 0: fail;"),
            one("fail; b left P, 0: fail;"), one("fail; b left 1, P: fail;")};
        for (String place : places) {
            for (String twenty : new String[] {times(20, "1", " + "), "-" + times(20, "n", " - "), times(20, "2*n^2", " + ")}) {
                Kit.due("20 monos in " + place, judged(place.replace("P", twenty)) == 2 ? 2 : 0, 0);
                Kit.dueFault(2, place.replace("P", twenty + " + @1"));
                Kit.dueFault(2, place.replace("P", twenty + " - @n^2"));
                Kit.dueFault(2, place.replace("P", twenty + " - @3*n + 1"));
            }
        }
        taken("method f(n) steps " + times(20, "1", " + ") + " cells " + times(20, "1", " + ") + " { a: fail; by {19; 20} }");
        taken("method f(n) needs " + times(20, "n", " + ") + " >= " + times(20, "1", " + ") + " steps 1 cells 0" + BODY);
    }

    /** "4 factors of a mono": a power is one factor. */
    private static void factorLimits() {
        String[] places = {"method f(n) needs P >= 0 steps 1 cells 0" + BODY, "method f(n) needs 1 + 2*n <= 5 - P steps 1 cells 0" + BODY,
            "method f(n) steps P cells 0" + BODY, "method f(n) steps 1 cells 1 + P" + BODY,
            "method f(n) steps 1 cells 0 gives P >= 0" + BODY, one("fail; b keeps 0 >= P left 1, 0: fail;"),
            one("fail; b left P, 0: fail;"), one("fail; b left 1, n - P: fail;")};
        for (String place : places) {
            for (String four : new String[] {"1*2*3*4", "n*n*n*n", "n^2*1*n^3*2", "0*n^6*n^6*n^6"}) {
                Kit.due("4 factors in " + place, judged(place.replace("P", four)) == 2 ? 2 : 0, 0);
                Kit.dueFault(2, place.replace("P", four + "*@1"));
                Kit.dueFault(2, place.replace("P", four + "*@n"));
                Kit.dueFault(2, place.replace("P", four + "*@n^2*n*0 + 1"));
            }
        }
        Kit.dueFault(2, "method f(n) steps 1 cells 0 gives n*n*n*n*@result >= 0" + BODY);
    }

    /** "the least place at which one of these is broken", in whatever order they are found. */
    private static void leastPlace() {
        // a goal or a call is known only when all is read
        Kit.dueFault(2, one("goto @q; b left 1, 0: x = 1 / 0; fail;"));
        Kit.dueFault(2, one("x = 1 / @0; goto q;"));
        Kit.dueFault(2, one("x = @g(); fail; b left n^7, 0: fail;"));
        Kit.dueFault(2, one("fail; b left n^@7, 0: x = g(); fail;"));
        Kit.dueFault(2, one("x = @f(q, 1); fail;"));
        Kit.dueFault(2, one("x = f(@q); goto q;"));
        Kit.dueFault(2, one("@q = g(); fail;"));
        Kit.dueFault(2, one("@q[r] = s; fail;"));
        Kit.dueFault(2, one("if n < 1 goto @q else r;"));
        Kit.dueFault(2, one("if @p < r goto q else r;"));
        Kit.dueFault(2, "method f(a,@a,b,c) needs q^7 >= 0 steps q cells q" + BODY);
        Kit.dueFault(2, "method f(a,b,c,@c) needs q^7 >= 0 steps q cells q" + BODY);
        Kit.dueFault(2, "method f(a) needs @q^7 >= 0 steps 1 cells 0" + BODY);
        Kit.dueFault(2, "method f(a) needs a^@7*q >= 0 steps 1 cells 0" + BODY);
        Kit.dueFault(2, one("x = @f(); fail;") + " method f(a,a) steps 1 cells 0" + BODY);
        // of two methods with one name a call means the first
        Kit.dueFault(2, one("x = @f(); fail;") + " method f() steps 1 cells 0" + BODY);
        Kit.dueFault(2, one("x = f(n); fail;") + " method @f() steps 1 cells 0" + BODY);
        Kit.dueFault(2, methods(13).replace("@", "").replace("f11() steps 1", "f11() steps @q"));
    }
}
