/** What each FAULT is, and where (promises 3 and 4, terms I to IV); the sign @ stands at the place that is due. */
public final class FaultTest {
    private static final String BY = " by {0; 0} }";

    public static void main(String[] args) {
        tokens();
        syntaxOfMethods();
        syntaxOfBlocks();
        syntaxOfWitnesses();
        names();
        calls();
        numbers();
        limitsOfMethods();
        limitsOfBlocks();
        limitsOfPolys();
        order();
        bigTexts();
        witnessCounts();
        witnesses();
        hypotheses();
        bigProofs();
        Kit.end();
    }

    /** A method that is taken, but for what is in it: 100 steps, 100 cells. */
    private static String one(String body) {
        return "method f(n) needs n >= 0 steps 100 cells 100 { var x,y,z; a: " + body + " }";
    }

    private static String times(int n, String part, String between) {
        return String.join(between, java.util.Collections.nCopies(n, part));
    }

    private static void taken(String text) {
        Kit.dueFault(text, 0, -1);
    }

    private static void tokens() {
        taken("");
        taken(" \n \n");
        taken("\nmethod\nf()steps 1 cells 0{a:return 0;by{0;0}}");
        Kit.dueFault(1, "@x");
        Kit.dueFault(1, "  @7");
        Kit.dueFault("", 0, -1);
        for (int sign = 0; sign < 256; sign++) {
            String text = "method f(" + (char) sign + ") steps 1 cells 0 { a: return 0;" + BY;
            boolean fits = sign == 10 || sign == 32 || sign >= 'a' && sign <= 'z' || sign >= 'A' && sign <= 'Z';
            boolean second = sign == ')';
            Kit.dueFault(text, fits ? 0 : 1, second ? 10 : 9);
        }
        taken("method abcdefgh() steps 1 cells 0 { A1234567: return 0;" + BY);
        Kit.dueFault(1, "method @abcdefghi() steps 1 cells 0 { a: return 0;" + BY);
        Kit.dueFault(1, "method @1f() steps 1 cells 0 { a: return 0;" + BY);
        Kit.dueFault(1, "method f@_() steps 1 cells 0 { a: return 0;" + BY);
        taken("method f() steps 00000001 cells 00 { a: return 0;" + BY);
        Kit.dueFault(1, "method f() steps @000000001 cells 0 { a: return 0;" + BY);
        Kit.dueFault(1, "method f() steps @1cells 0 { a: return 0;" + BY);
        Kit.dueFault(1, "method f() steps 1 cells @0x { a: return 0;" + BY);
        Kit.dueFault(1, "method f() steps 1 @cellsx 0 { a: return 0;" + BY);
        Kit.dueFault(1, "method f(n) needs n @> = 0 steps 1 cells 0 { a: return 0;" + BY);
        Kit.dueFault(1, "method f(n) steps 1 cells 0 { a: if n @! 0 goto b else b; }");
        Kit.dueFault(1, "method f(n) steps 1 cells 0 { a: if n @= 0 goto b else b; }");
        Kit.dueFault(1, "method f(n) steps 1 cells 0 { a: if n <=@= 0 goto b else b; }");
        Kit.dueFault(1, "method f(n) steps 1 cells 0 { a: if n !=@= 0 goto b else b; }");
        for (String word : "method needs steps cells gives result var keeps left goto if else return fail new len read by"
                .split(" ")) {
            Kit.dueFault(1, "method @" + word + "() steps 1 cells 0 { a: return 0;" + BY);
            taken("method f() steps 1 cells 0 { X" + word + ": return 0;" + BY);
        }
    }

    private static void syntaxOfMethods() {
        String whole = "method f(n,m) needs n >= 0, m <= 0 steps 3 cells 0 gives result >= 0 { var x; a: goto b;";
        for (int n = 1; n < whole.length(); n++) {
            String cut = whole.substring(0, n);
            // a word that is cut does not fit itself
            if (whole.charAt(n) == ' ' || whole.charAt(n - 1) == ' ') {
                Kit.dueFault(cut, 1, n);
            }
        }
        Kit.dueFault(1, "method f @f() steps");
        Kit.dueFault("method f  \n ", 1, 12);
        Kit.dueFault(1, "method f@; () steps 1 cells 0 { a: return 0;" + BY);
        Kit.dueFault(1, "method f(a @b) steps 1 cells 0 { a: return 0;" + BY);
        Kit.dueFault(1, "method f(a,@) steps 1 cells 0 { a: return 0;" + BY);
        Kit.dueFault(1, "method f(@,a) steps 1 cells 0 { a: return 0;" + BY);
        Kit.dueFault(1, "method f() @cells 1 steps 0 { a: return 0;" + BY);
        Kit.dueFault(1, "method f() steps 1 @{ a: return 0;" + BY);
        Kit.dueFault(1, "method f() needs @steps 1 cells 0 { a: return 0;" + BY);
        Kit.dueFault(1, "method f() needs 1 @> 0 steps 1 cells 0 { a: return 0;" + BY);
        Kit.dueFault(1, "method f() needs 1 @== 0 steps 1 cells 0 { a: return 0;" + BY);
        Kit.dueFault(1, "method f() needs 1 >= 0 @>= 0 steps 1 cells 0 { a: return 0;" + BY);
        Kit.dueFault(1, "method f() steps 1 cells 0 @needs 1 >= 0 { a: return 0;" + BY);
        Kit.dueFault(1, "method f() steps @+ 1 cells 0 { a: return 0;" + BY);
        Kit.dueFault(1, "method f() steps - @- 1 cells 0 { a: return 0;" + BY);
        Kit.dueFault(1, "method f() steps 1 + @- 1 cells 0 { a: return 0;" + BY);
        Kit.dueFault(1, "method f(n) steps n*@- 1 cells 0 { a: return 0;" + BY);
        Kit.dueFault(1, "method f(n) steps 2@^2 cells 0 { a: return 0;" + BY);
        Kit.dueFault(1, "method f(n) steps n^@n cells 0 { a: return 0;" + BY);
        Kit.dueFault(1, "method f(n) steps n^2@^2 cells 0 { a: return 0;" + BY);
        Kit.dueFault(1, "method f(n) steps 2 @n cells 0 { a: return 0;" + BY);
        Kit.dueFault(1, "method f() steps 1 cells 0 { @}");
        Kit.dueFault(1, "method f() steps 1 cells 0 { var @; a: return 0;" + BY);
        Kit.dueFault(1, "method f() steps 1 cells 0 { var x @a: return 0;" + BY);
        Kit.dueFault(1, "method f() steps 1 cells 0 { var x; @var y; a: return 0;" + BY);
        Kit.dueFault(1, "method f() steps 1 cells 0 { a: return 0;" + BY + " @f");
        Kit.dueFault(1, "method f() steps 1 cells 0 { a: return 0;" + BY + "@}");
    }

    private static void syntaxOfBlocks() {
        Kit.dueFault(1, "method f() steps 1 cells 0 { a @left 1, 0: return 0;" + BY);
        Kit.dueFault(1, "method f() steps 1 cells 0 { a @keeps 1 >= 0 left 1, 0: return 0;" + BY);
        Kit.dueFault(1, one("fail; b@: fail;"));
        Kit.dueFault(1, one("fail; b keeps x >= 0@: fail;"));
        Kit.dueFault(1, one("fail; b keeps @left 1, 0: fail;"));
        Kit.dueFault(1, one("fail; b left 1@: fail;"));
        Kit.dueFault(1, one("fail; b left 1, 0@, 0: fail;"));
        Kit.dueFault(1, one("fail; @; b left 1, 0: fail;"));
        Kit.dueFault(1, one("x = 1;").replace("; }", "; @}"));
        Kit.dueFault(1, one("").replace(" }", "@}"));
        Kit.dueFault(1, one("x @: fail;"));
        Kit.dueFault(1, one("x @== 1; fail;"));
        Kit.dueFault(1, one("x = @; fail;"));
        Kit.dueFault(1, one("x = -@n; fail;"));
        Kit.dueFault(1, one("x = -@-1; fail;"));
        Kit.dueFault(1, one("x = 1 + 2 @+ 3; fail;"));
        Kit.dueFault(1, one("x = n / @n; fail;"));
        Kit.dueFault(1, one("x = n / @-2; fail;"));
        Kit.dueFault(1, one("x = n % @x; fail;"));
        Kit.dueFault(1, one("x = n @^ 2; fail;"));
        Kit.dueFault(1, one("x = new @new; fail;"));
        Kit.dueFault(1, one("x = new n @+ 1; fail;"));
        Kit.dueFault(1, one("x = len n@[0]; fail;"));
        Kit.dueFault(1, one("x = read @n; fail;"));
        Kit.dueFault(1, one("x = f(@,n); fail;"));
        Kit.dueFault(1, one("x = f(n,@); fail;"));
        Kit.dueFault(1, one("x = f(n@; fail;"));
        Kit.dueFault(1, one("x = f(n) @+ 1; fail;"));
        Kit.dueFault(1, one("x = f(n@+1); fail;"));
        Kit.dueFault(1, one("x = 1@(n); fail;"));
        Kit.dueFault(1, one("x = n[1] @+ 1; fail;"));
        Kit.dueFault(1, one("x = n[n@[1]]; fail;"));
        Kit.dueFault(1, one("x[1] @; fail;"));
        Kit.dueFault(1, one("x[1] = 1 @+ 1; fail;"));
        Kit.dueFault(1, one("x[1] = @new 1; fail;"));
        Kit.dueFault(1, one("x[@] = 1; fail;"));
        Kit.dueFault(1, one("x = @result; fail;"));
        Kit.dueFault(1, one("goto @7;"));
        Kit.dueFault(1, one("goto b @goto c;"));
        Kit.dueFault(1, one("if n < 1 @b else c;"));
        Kit.dueFault(1, one("if n < 1 goto b@; "));
        Kit.dueFault(1, one("if n @goto b else c;"));
        Kit.dueFault(1, one("if n < 1 goto b else @goto c;"));
        Kit.dueFault(1, one("return @;"));
        Kit.dueFault(1, one("return n @+ 1;"));
        Kit.dueFault(1, one("fail @n;"));
    }

    private static void syntaxOfWitnesses() {
        String fail = "fail; ";
        Kit.dueFault(1, one(fail + "by @0; 0"));
        Kit.dueFault(1, one(fail + "by {@}"));
        Kit.dueFault(1, one(fail + "by {0;@}"));
        Kit.dueFault(1, one(fail + "by {0@,0}"));
        Kit.dueFault(1, one(fail + "by {@-1;0}"));
        Kit.dueFault(1, one(fail + "by {@n;0}"));
        Kit.dueFault(1, one(fail + "by {#@;0}"));
        Kit.dueFault(1, one(fail + "by {#@#0;0}"));
        Kit.dueFault(1, one(fail + "by {2*@3;0}"));
        Kit.dueFault(1, one(fail + "by {#0*@3;0}"));
        Kit.dueFault(1, one(fail + "by {#0@:0;0}"));
        Kit.dueFault(1, one(fail + "by {2:@;0}"));
        Kit.dueFault(1, one(fail + "by {2:3@:0;0}"));
        Kit.dueFault(1, one(fail + "by {2+3@:0;0}"));
        Kit.dueFault(1, one(fail + "by {2+@;0}"));
        Kit.dueFault(1, one(fail + "by {2@-1;0}"));
        Kit.dueFault(1, one(fail + "by {2 @#0;0}"));
        Kit.dueFault(1, one(fail + "by {0;0} @by {0;0}"));
        Kit.dueFault(1, one(fail + "by {0;0}@;"));
    }

    private static void names() {
        String tail = " { a: fail;" + BY;
        Kit.dueFault(2, "method f() steps 1 cells 0" + tail + " method @f() steps 1 cells 0" + tail);
        Kit.dueFault(2, "method f(n,@n) steps 1 cells 0" + tail);
        Kit.dueFault(2, "method f(n) steps 1 cells 0 { var @n; a: fail;" + BY);
        Kit.dueFault(2, "method f() steps 1 cells 0 { var n,@n; a: fail;" + BY);
        taken("method f(f) steps 1 cells 0 { var a; a: fail;" + BY);
        taken("method f(n) steps 1 cells 0" + tail + " method g(n) steps 1 cells 0" + tail);
        Kit.dueFault(2, one("fail; @a left 1, 0: fail;"));
        Kit.dueFault(2, one("fail; b left 1, 0: fail; @b left 1, 0: fail;"));
        Kit.dueFault(2, "method f(n) needs @x >= 0 steps 1 cells 0 { var x; a: fail;" + BY);
        Kit.dueFault(2, "method f(n) needs n >= @x steps 1 cells 0 { var x; a: fail;" + BY);
        Kit.dueFault(2, "method f(n) steps 1 + @x cells 0 { var x; a: fail;" + BY);
        Kit.dueFault(2, "method f(n) steps 1 cells 2*@f { var x; a: fail;" + BY);
        Kit.dueFault(2, "method f(n) steps 1 cells 0 gives @x >= 0 { var x; a: fail;" + BY);
        Kit.dueFault(2, "method f(n) needs @result >= 0 steps 1 cells 0 { var x; a: fail;" + BY);
        Kit.dueFault(2, "method f(n) steps @result cells 0 { var x; a: fail;" + BY);
        Kit.dueFault(2, "method f(n) steps 1 cells @result^2 { var x; a: fail;" + BY);
        taken("method f(n) steps 1 cells 0 gives result >= n, result^2 <= n*result { var x; a: fail;" + BY);
        Kit.dueFault(2, one("fail; b keeps @q >= 0 left 1, 0: fail;"));
        Kit.dueFault(2, one("fail; b keeps @result >= 0 left 1, 0: fail;"));
        Kit.dueFault(2, one("fail; b left @b, 0: fail;"));
        Kit.dueFault(2, one("fail; b left 1, @result: fail;"));
        Kit.dueFault(2, one("@n = 1; fail;"));
        Kit.dueFault(2, one("@q = 1; fail;"));
        Kit.dueFault(2, one("@f = 1; fail;"));
        Kit.dueFault(2, one("x = @q; fail;"));
        Kit.dueFault(2, one("x = 1 + @q; fail;"));
        Kit.dueFault(2, one("x = @q / 2; fail;"));
        Kit.dueFault(2, one("x = new @q; fail;"));
        Kit.dueFault(2, one("x = len @q; fail;"));
        Kit.dueFault(2, one("x = @q[0]; fail;"));
        Kit.dueFault(2, one("x = x[@q]; fail;"));
        Kit.dueFault(2, one("@q[0] = 0; fail;"));
        Kit.dueFault(2, one("x[@q] = 0; fail;"));
        Kit.dueFault(2, one("x[0] = @q; fail;"));
        Kit.dueFault(2, one("if @q < n goto b else b; b left 1, 0: fail;"));
        Kit.dueFault(2, one("if n < @q goto b else b; b left 1, 0: fail;"));
        Kit.dueFault(2, one("return @q;"));
        Kit.dueFault(2, one("goto @a;"));
        Kit.dueFault(2, one("goto @b;"));
        Kit.dueFault(2, one("if n < 0 goto @a else b; b left 1, 0: fail;"));
        Kit.dueFault(2, one("if n < 0 goto b else @c; b left 1, 0: fail;"));
        Kit.dueFault(2, one("goto @c;") + " method g() steps 1 cells 0 { a: fail; c left 1, 0: fail;" + BY);
        Kit.dueFault(3, one("n[0] = 1; goto b; b left 1, 0: goto b;").replace("a: n", "@a: n"));
    }

    private static void calls() {
        Kit.dueFault(2, one("x = @g(n); fail;"));
        Kit.dueFault(2, one("x = @f(); fail;"));
        Kit.dueFault(2, one("x = @f(n,n); fail;"));
        Kit.dueFault(2, one("x = @f(n,1,2,3,4); fail;"));
        Kit.dueFault(2, one("x = @x(n); fail;"));
        Kit.dueFault(2, one("x = @f(q, 1); fail;"));
        Kit.dueFault(3, one("x = f(-1); x = g(); fail;").replace("a: x", "@a: x")
                + " method g() steps 1 cells 0 { a: fail;" + BY);
        taken(one("x = g(); fail; by {98; 100; 97; 100}") + " method g() steps 1 cells 0 { a: fail;" + BY);
    }

    private static void numbers() {
        Kit.dueFault(2, "method f(n) steps n^@0 cells 0 { a: fail;" + BY);
        Kit.dueFault(2, "method f(n) steps n^@7 cells 0 { a: fail;" + BY);
        Kit.dueFault(2, "method f(n) steps n^@99999999 cells 0 { a: fail;" + BY);
        Kit.dueFault(2, "method f(n) steps 1 cells 0 gives result^@0 >= 0 { a: fail;" + BY);
        Kit.dueFault(3, "method f(n) steps n^6 + n^1 + n^0003 cells 0 { @a: fail; }");
        Kit.dueFault(2, one("x = n / @0; fail;"));
        Kit.dueFault(2, one("x = n % @00000000; fail;"));
        Kit.dueFault(3, one("x = n % 1; x = 0 / 99999999; x = 0 * 0; fail;").replace("a: x", "@a: x"));
    }

    private static void limitsOfMethods() {
        StringBuilder text = new StringBuilder();
        for (int m = 0; m < 12; m++) {
            text.append("method f").append(m).append("() steps 1 cells 0 { a: fail;").append(BY).append(" ");
        }
        taken(text.toString());
        Kit.dueFault(2, text + "@method g() steps 1 cells 0 { a: fail;" + BY);
        // a thirteenth one is there for those that call it
        Kit.dueFault(2, text.toString().replace("f0() steps 1 cells 0 { a:", "f0() steps 9 cells 0 { var x; a: x = g();")
                + "@method g() steps 1 cells 0 { a: fail;" + BY);
        taken("method f(a,b,c) steps 1 cells 0 { var x,y,z; a: fail;" + BY);
        Kit.dueFault(2, "method f(a,b,c,@d) steps 1 cells 0 { a: fail;" + BY);
        Kit.dueFault(2, "method f(a,b,c,@d,e,g,h) steps h cells i { a: fail;" + BY);
        Kit.dueFault(2, "method f(a,b,c) steps 1 cells 0 { var x,y,z,@w; a: fail;" + BY);
        taken("method f() steps 1 cells 0 { var u,v,w,x,y,z; a: fail;" + BY);
        Kit.dueFault(2, "method f() steps 1 cells 0 { var u,v,w,x,y,z,@t; a: fail;" + BY);
        Kit.dueFault(2, one("x = g(1,2,3,4); fail;") + " method g(a,b,c,@d) steps 1 cells 0 { a: fail;" + BY);
        Kit.dueFault(2, one("x = @g(1,2,3); fail;") + " method g(a,b,c,d) steps 1 cells 0 { a: fail;" + BY);
        taken("method f(n) needs " + times(6, "1 >= 0", ", ") + " steps 1 cells 0 { a: fail;" + BY);
        Kit.dueFault(2, "method f(n) needs " + times(6, "1 >= 0", ", ") + ", @-1 <= 0 steps 1 cells 0 { a: fail;" + BY);
        Kit.dueFault(2, "method f(n) steps 1 cells 0 gives " + times(6, "1 >= 0", ", ") + ", @1 >= 0 { a: fail;" + BY);
    }

    private static void limitsOfBlocks() {
        StringBuilder blocks = new StringBuilder("fail; by {99; 100} ");
        for (int b = 1; b < 20; b++) {
            blocks.append("b").append(b).append(" left 1, 0: fail; by {0; 0} ");
        }
        taken(one(blocks.toString()));
        Kit.dueFault(2, one(blocks + "@b20 left 1, 0: fail;"));
        // a block too many is there for those that go to it
        Kit.dueFault(2, one("goto b20; " + blocks.substring(6) + "@b20 left 1, 0: fail;"));
        taken(one(times(10, "x = 1; ", "") + "fail; by {89; 100}"));
        Kit.dueFault(2, one(times(10, "x = 1; ", "") + "@x = 1; fail; by {89; 100}"));
        Kit.dueFault(2, one(times(10, "x = 1; ", "") + "@x[0] = 1; fail; by {89; 100}"));
        taken(one("fail; by {99; 100} b keeps " + times(6, "1 >= 0", ", ") + " left 1, 0: fail; by {0; 0}"));
        Kit.dueFault(2, one("fail; by {99; 100} b keeps " + times(6, "1 >= 0", ", ") + ", @1 >= 0 left 1, 0: fail;"));
        Kit.dueFault(2, one("fail; by {" + times(40, "1", ";") + ";@2:1}"));
        Kit.dueFault(3, one("fail; @by {" + times(40, "1", ";") + "}"));
        taken(one("fail; by {" + times(19, "5", "+") + "+4; 100}"));
        Kit.dueFault(2, one("fail; by {" + times(20, "5", "+") + "+@0; 100}"));
        Kit.dueFault(2, one("fail; by {" + times(20, "5", "+") + "+@#0; 100}"));
        taken("method f(n) needs n >= 0 steps n^4 + 1 cells 3*n^4 { a: fail; by {#0*#0*#0*#0; 3*#0*#0*#0*#0} }");
        Kit.dueFault(2, one("fail; by {#0*#0*#0*#0*@#0; 100}"));
        Kit.dueFault(2, one("fail; by {1*#0*#0*#0*#0*@#0*#0; 100}"));
        // forty witnesses are enough for no more than this
        String keeps = times(6, "1 >= 0", ", ");
        taken("method g(n) needs " + keeps + " steps 1 cells 0 { a: fail; by {0; 0} } "
                + one(times(3, "x = g(1); ", "") + "goto b; by {96; 100; " + times(6, "1", ";") + ";95;100;"
                + times(6, "1", ";") + ";94;100;" + times(6, "1", ";") + ";93;100;" + times(6, "1", ";") + ";92;100}"
                + " b keeps " + keeps + " left 1, 0: fail; by {0; 0}"));
    }

    private static void limitsOfPolys() {
        taken("method f(n) steps " + times(20, "1", " + ") + " cells 0 { a: fail; by {19; 0} }");
        Kit.dueFault(2, "method f(n) steps " + times(20, "1", " + ") + " - @n cells 0 { a: fail;" + BY);
        Kit.dueFault(2, "method f(n) steps -" + times(20, "1", " - ") + " - @1 cells 0 { a: fail;" + BY);
        Kit.dueFault(2, one("fail; b keeps 0 >= " + times(20, "1", " + ") + " + @2*n left 1, 0: fail;"));
        Kit.dueFault(3, "method f(n) steps 1*2*3*4 cells n*n*n*n { @a: fail; }");
        Kit.dueFault(2, "method f(n) steps 1*2*3*4*@5 cells 0 { a: fail; }");
        Kit.dueFault(2, "method f(n) steps 1 + n*n*n*n*@n cells 0 { a: fail; }");
        Kit.dueFault(2, "method f(n) steps 1 cells 0 gives 1 >= n*n*n*n*@result { a: fail; }");
    }

    /** A SYNTAX fault goes first wherever it is; then the least place of a rule; then polys; then proofs. */
    private static void order() {
        Kit.dueFault(1, "method f(n,n) steps 99999999*2 cells 0 { a: goto c; b left 1, 1: @");
        Kit.dueFault(1, "method f(n,n) steps 99999999*2 cells 0 { a: goto c; b left 1@: fail; }");
        Kit.dueFault(2, "method f(n,@n) steps q cells 0 { a: goto c; } method f() steps 1 cells 0 { a: fail; }");
        Kit.dueFault(2, "method f(n) steps 1 cells 0 { var x; a: x = @g(n); goto c; }"
                + " method f() steps 1 cells 0 { a: fail; }");
        Kit.dueFault(2, "method f(n) steps 99999999*2 cells 0 { a: goto @c; }");
        Kit.dueFault(5, "method f(n) steps 1 cells 0 { a: fail; } method g() steps @99999999*2 cells 0 { a: fail; }");
        Kit.dueFault(3, "method f(n) steps 1 cells 0 { @a: fail; } method g() steps 1 cells 0 { a: fail; by {1; 0} }");
        Kit.dueFault(4, "method f(n) steps 1 cells 0 { a: fail; by {@1; 0} b left 1, 0: fail; }");
        Kit.dueFault(3, "method f(n) steps 1 cells 0 { a: fail; @by {1; 0; 0} b left 1, 0: fail; }");
        Kit.dueFault(5, one("fail; b keeps n >= 0, 1 >= @99999999*2 left 99999999*3, 0: fail;"));
    }

    private static void bigTexts() {
        String tail = " cells 0 { @a: fail; }";
        Kit.dueFault(3, "method f(n,m) steps 99999999*n*m - 99999999*n - 99999999" + tail);
        String big = " cells 0 { a: fail; }";
        Kit.dueFault(5, "method f(n,m) steps @99999999 + 1" + big);
        Kit.dueFault(5, "method f(n,m) steps @-99999999 - 1" + big);
        Kit.dueFault(5, "method f(n,m) steps @99999999*n + 1*n - 5*n" + big);
        Kit.dueFault(3, "method f(n,m) steps 99999999*n - 5*n + 1*n" + tail);
        Kit.dueFault(5, "method f(n,m) steps @n*99999999*2*0" + big);
        Kit.dueFault(3, "method f(n,m) steps n*99999999*0*2" + tail);
        Kit.dueFault(5, "method f(n,m) steps @10000*10000" + big);
        Kit.dueFault(3, "method f(n,m) steps n^6*n^3*m^6*m^3" + tail);
        Kit.dueFault(5, "method f(n,m) steps @n^6*n^4" + big);
        Kit.dueFault(5, "method f(n,m) steps @n^6*n^4*0" + big);
        Kit.dueFault(3, "method f(n,m) steps 0*n^6*n^4" + tail);
        Kit.dueFault(5, "method f(n,m) steps 1 cells @n*m^6*m^4 - n*m^6*m^4 { a: fail; }");
        Kit.dueFault(5, "method f(n,m) needs @n + 99999999 >= -1 steps 1" + big);
        Kit.dueFault(5, "method f(n,m) needs n <= 0, @-n - 99999999 >= 1 steps 1" + big);
        Kit.dueFault(5, "method f(n,m) needs @-99999999 <= 1 steps 1" + big);
        Kit.dueFault(3, "method f(n,m) needs 99999999 >= 1, 99999999 <= 0 steps 1" + tail);
        Kit.dueFault(5, "method f(n,m) needs n >= @m^6*m^6 steps 99999999*2" + big);
        Kit.dueFault(5, "method f(n,m) steps 1 cells 0 gives result >= 0, result <= @-2*99999999 { a: fail; }");
        Kit.dueFault(5, one("fail; b keeps @99999999*x >= -5*x left 1, 0: fail;"));
        Kit.dueFault(5, one("fail; b left @x^6*x^6, x^6*x^6: fail;"));
        Kit.dueFault(5, one("fail; b left 1, @x^6*x^6: fail;"));
    }

    private static void witnessCounts() {
        Kit.dueFault(3, "method f() steps 1 cells 0 { @a: fail; }");
        Kit.dueFault(3, "method f() steps 1 cells 0 { a: fail; @by {0} }");
        Kit.dueFault(3, "method f() steps 1 cells 0 { a: fail; @by {0;0;0} }");
        Kit.dueFault(3, "method f() steps 1 cells 0 gives result >= 0 { a: return 0; @by {0;0} }");
        taken("method f() steps 1 cells 0 gives result >= 0 { a: return 0; by {0;0;0} }");
        Kit.dueFault(3, one("x = new 5; fail; @by {98; 100}"));
        taken(one("x = new 5; fail; by {98; 100; 94}"));
        taken(one("x = len 5; x = read; x = x[5]; x[x] = 0; x = 5 % 5; x = 5 / 5; x = -5; x = 1 * x; fail; by {91; 100}"));
        Kit.dueFault(3, one("x = f(n); fail; @by {98; 100; #0; 100}"));
        Kit.dueFault(3, one("goto b; @by {99; 100; 98} b keeps n >= 0 left 1, 0: fail; by {0; 0}"));
        taken(one("goto b; by {99; 100; #0; 98; 100} b keeps n >= 0 left 1, 0: fail; by {0; 0}"));
        taken(one("if x < n goto b else c; by {99; 100; #0; 98; 100; 98; 100} b keeps n >= 0 left 1, 0: fail; by {0; 0}"
                + " c left 1, 0: fail; by {0; 0}"));
        Kit.dueFault(3, one("if x < n goto b else c; @by {99; 100; #0; 98; 100; 98} b keeps n >= 0 left 1, 0: fail;"
                + " by {0; 0} c left 1, 0: fail; by {0; 0}"));
        // ahead of all else of the block: the first witness is wrong, too
        Kit.dueFault(3, one("x = new 5; fail; @by {0: 98; 100}"));
    }

    private static void witnesses() {
        taken(one("fail; by {1: 99; 2: 200}"));
        taken(one("x = new 5; fail; by {3: 294; 2: 200; 5: 470}"));
        taken(one("x = n % 3; if n < 3 goto b else c; by {2: 196; 3: 300; 4: 4*#3; 7: 679; 2: 200; 5: 5*#3; 9: 873; 100}"
                + " b keeps 2 - n >= 0 left 1, 0: fail; by {0; 0} c keeps n - 3 >= 0 left 1, 0: fail; by {0; 0}"));
        taken(one("fail; by {99+0*#0+0; 7: 350+350}"));
        Kit.dueFault(4, one("fail; by {@99+#0; 100}"));
        Kit.dueFault(4, one("fail; by {99; @99}"));
        Kit.dueFault(4, one("fail; by {@0: 0; 100}"));
        Kit.dueFault(4, one("fail; by {99; @0: 100}"));
        Kit.dueFault(4, one("fail; by {99; @100+0*#1}"));
        taken(one("fail; by {99; 100+0*#0}"));
        Kit.dueFault(4, one("fail; by {@99+#99999999; 100}"));
        Kit.dueFault(5, one("fail; by {@99999999: 99; 100}"));
        Kit.dueFault(5, one("fail; by {99; @99999999+1}"));
        Kit.dueFault(4, one("fail; by {@99999999+1+#9; 100}"));
        Kit.dueFault(4, one("fail; by {@0: 99999999+1; 100}"));
        taken("method f(n) needs n^6 >= 0 steps 9 cells 0 { a: fail; by {8; 0*#0*#0*#0} }");
        Kit.dueFault(5, "method f(n) needs n^6 >= 0 steps 9 cells 0 { a: fail; by {8; @1*#0*#0} }");
        Kit.dueFault(5, "method f(n) needs n^6 >= 0, 0 >= 0 steps 9 cells 0 { a: fail; by {8; @1*#0*#0*#1} }");
        taken("method f(n) needs n^6 >= 0, 0 >= 0 steps 9 cells 0 { a: fail; by {8; 1*#1*#0*#0} }");
        Kit.dueFault(5, "method f(n) needs n - n^6 >= 0 steps 9 cells 0 { a: fail; by {8; @#0*#0} }");
        // a power above 9 counts though its term goes with another one
        Kit.dueFault(5, "method f(n,m) needs n^5 - m >= 0, n^5 + m >= 0 steps 9 cells 0 { a: fail; by {8; @#0*#1} }");
        Kit.dueFault(4, "method f(n,m) needs n^4 - m >= 0, n^4 + m >= 0 steps 9 cells 0 { a: fail; by {8; @#0*#1} }");
        taken("method f(n,m) needs n^4 - m >= 0, n^4 + m >= 0 steps 9 cells n^6*n^2 - m^2 { a: fail; by {8; #0*#1} }");
    }

    private static void hypotheses() {
        String gives = "method f(n) steps 100 cells 100 gives ";
        // a < b: b - a - 1, and if it is not so a - b; and so on
        dueRelation("<", "n - 4", "3 - n");
        dueRelation("<=", "n - 3", "2 - n");
        dueRelation(">", "2 - n", "n - 3");
        dueRelation(">=", "3 - n", "n - 4");
        dueRelation("==", "3 - n", "");
        dueRelation("!=", "", "3 - n");
        taken(gives + "result >= 0, 6 >= result { var x; a: x = n % 7; return x; by {98; 100; #0; #1} }");
        taken(gives + "3*result <= n, 3*result >= n - 2 { var x; a: x = n / 3; return x; by {98; 100; #0; #1} }");
        taken("method f(n) needs n >= 0 steps 100 cells n + 1 gives result >= 1 { var x; a: x = new n; return x;"
                + " by {98; 1+#0; 0; #2} }");
        taken(gives + "result >= 0 { var x; a: x = len n; return x; by {98; 100; #0} }");
        taken(gives + "n >= 0 { var x; a: x = n[n]; return x; by {98; 100; #0} }");
        taken(gives + "n >= 0 { var x; a: n[n] = n; return x; by {98; 100; #0} }");
        // new a: a comes ahead of what is SHOWN, u - 1 behind it
        Kit.dueFault(4, "method f(n) steps 100 cells 9 { var x; a: x = new 3; fail; by {98; 9; @5+0*#1} }");
        taken("method f(n) steps 100 cells 9 { var x; a: x = new 3; fail; by {98; 9; 5+0*#0} }");
        // what a call gives comes behind what it wants, with what it brings for result
        String called = " method g(m) needs m >= 0 steps 5 cells 1 gives result >= m, result <= 2*m"
                + " { a: return m; by {4; 1; 0; #0} }";
        taken("method f(n) needs n >= 2 steps 100 cells 100 gives result >= n, result <= 2*n { var x; a: x = g(n);"
                + " return x; by {98; 100; 2+#0; 93; 99; #1; #2} }" + called);
        Kit.dueFault(4, "method f(n) needs n >= 2 steps 100 cells 100 { var x; a: x = g(n);"
                + " return x; by {98; 100; 2+#0; 93; @99+0*#1} }" + called);
        // locals are 0 at the first block's beginning, and nobody knows them at another one's
        taken(gives + "result >= 0 { var x; a: return x; by {99; 100; 0} }");
        Kit.dueFault(4, gives + "result >= 0 { var x; a: goto b; by {99; 100; 98; 100}"
                + " b left 1, 0: return x; by {0; 0; @0} }");
        // what the first relation told goes
        Kit.dueFault(4, one("if n < 3 goto b else c; by {99; 100; #1; 98; 100; @#1; 98; 100}"
                + " b keeps n <= 2 left 1, 0: fail; by {0; 0} c keeps n <= 2 left 1, 0: fail; by {0; 0}"));
    }

    /** Of 3 rel n: the keeps of both goals are what comes, as it is; an empty one shows that nothing came. */
    private static void dueRelation(String rel, String so, String notSo) {
        String text = "method f(n) steps 9 cells 0 { a: if 3 " + rel + " n goto b else c; by {8; 0; "
                + (so.isEmpty() ? "" : "#0; ") + "7; 0; " + (notSo.isEmpty() ? "" : "#0; ") + "7; 0} b "
                + (so.isEmpty() ? "" : "keeps " + so + " >= 0 ") + "left 1, 0: fail; by {0; 0} c "
                + (notSo.isEmpty() ? "" : "keeps " + notSo + " >= 0 ") + "left 1, 0: fail; by {0; 0} }";
        BoundHouse house = Kit.taken(text);
        boolean both = rel.equals("==") || rel.equals("!=");
        Kit.due(text + " HYPOTHESES of the first", house.shown(2, 2), so.isEmpty() ? 0 : both ? 2 : 1);
        Kit.due(text + " HYPOTHESES of the second", house.shown(so.isEmpty() ? 4 : 5, 2),
                notSo.isEmpty() ? 0 : both ? 2 : 1);
    }

    private static void bigProofs() {
        String steps = "method f(n,m,k) needs n >= 0 steps 100 cells 100 { var x,y,z; a: ";
        // S less the statements less 1
        Kit.dueFault(5, one("fail; by {99; 100} @b left -99999999, 0: fail; by {0; 0}"));
        Kit.dueFault(4, one("fail; by {99; 100} b left -99999998, 0: fail; by {@0; 0}"));
        Kit.dueFault(5, one("fail; by {99; 100} @b left -99999990, 0: " + times(9, "x = 1; ", "") + "fail; by {0; 0}"));
        // sums, differences and products of a statement
        Kit.dueFault(5, one("x = 99999999 - n; x = x * 1; @y = x + 1; fail; by {96; 100}"));
        Kit.dueFault(5, one("x = n - 99999999; @y = x - 1; fail; by {97; 100}"));
        Kit.dueFault(5, one("x = 50000000 * n; @y = x * 2; fail; by {97; 100}"));
        taken(one("x = 33333333 * n; y = x * 3; fail; by {97; 100}"));
        taken(one("x = n * n; y = x * n; y = y * y; y = y * x; y = y * n; fail; by {94; 100}"));
        Kit.dueFault(5, one("x = n * n; y = x * n; y = y * y; y = y * x; y = y * n; @y = y * n; fail; by {93; 100}"));
        taken(one("x = n * n; y = x * n; y = y * y; y = y * x; y = y * n; y = y * z; fail; by {93; 100}"));
        // (n + m + k + z + y + 1)^3 has 56 terms, four more may be, five may not
        String cube = "x = n + m; x = x + k; z = read; x = x + z; y = read; x = x + y; x = x + 1; y = x * x; y = y * x; ";
        String goal = " b keeps y + n^4 + m^4 + k^4 + z^4 >= 0 left 1, 0: fail; by {0; 0} }";
        taken(steps + cube + "fail; by {90; 100} }");
        Kit.dueFault(4, steps + cube + "goto b; by {90; 100; @0; 89; 100}" + goal);
        Kit.dueFault(5, steps + cube + "@goto b; by {90; 100; 0; 89; 100}" + goal.replace("n^4", "n^4 + n^5"));
        Kit.dueFault(4, steps + cube + "goto b; by {90; 100; @0; 89; 100}" + goal.replace("n^4", "n^4 + n^3"));
        Kit.dueFault(5, steps + cube + "@x = y * x; fail; by {89; 100} }");
        // a / n: n q + n - 1 - a
        Kit.dueFault(5, one("x = 0 - 2; @y = x / 99999999; fail; by {97; 100}"));
        taken(one("x = 0 - 1; y = x / 99999999; fail; by {97; 100}"));
        // new a: a + 1 is worked, then taken off
        Kit.dueFault(5, one("@x = new 99999999; fail; by {98; 100; 0}"));
        Kit.dueFault(4, one("x = new 99999998; fail; by {98; 100; @0}"));
        // what is to be SHOWN at a jump
        Kit.dueFault(5, one("x = 99999999 - n; @goto b; by {98; 100; 0; 0; 0} b keeps x + 1 >= 0 left 1, 0: fail; by {0; 0}"));
        Kit.dueFault(5, one("x = 2; @goto b; by {98; 100; 0; 0} b left 50000000*x, 0: fail; by {0; 0}"));
        Kit.dueFault(5, one("x = -99999999; @goto b; by {98; 100; 0; 0} b left x, 0: fail; by {0; 0}"));
        Kit.dueFault(5, one("x = -99999999; @goto b; by {98; 100; 97; 0} b left 1, x: fail; by {0; 0}"));
        Kit.dueFault(4, one("x = -99999999; goto b; by {98; 100; @96; 0} b left 1, x: fail; by {0; 0}"));
        Kit.dueFault(5, one("x = -99999999; y = 1; @if x < y goto b else b; by {97; 100; 96; 100; 96; 100}"
                + " b left 1, 0: fail; by {0; 0}"));
        taken(one("x = -99999998; y = 1; if x < y goto b else b; by {97; 100; 96; 100; 96; 100}"
                + " b left 1, 0: fail; by {0; 0}"));
        // x <= y tells y - x first; if it is not so, x - y - 1, behind the witnesses of the first goal
        Kit.dueFault(5, one("x = -99999998; y = 1; @if x <= y goto b else b; by {97; 100; 96; 100; 96; 100}"
                + " b left 1, 0: fail; by {0; 0}"));
        Kit.dueFault(4, one("x = -99999998; y = 1; if x <= y goto b else b; by {97; 100; @95; 100; 96; 100}"
                + " b left 1, 0: fail; by {0; 0}"));
        // a call's needs, steps and gives
        String called = " method g(m) needs m^6 >= 0 steps m*50000000 cells 0 gives result >= m^6, 9 >= m { a: fail; }";
        Kit.dueFault(5, one("x = n * n; @y = g(x); fail; by {97; 100; 0; 0; 0}") + called);
        Kit.dueFault(5, one("@y = g(2); fail; by {98; 100; 64; 0; 0}") + called);
        Kit.dueFault(5, one("@y = g(99); fail; by {98; 100; 64; 0; 0}") + called);
        Kit.dueFault(4, one("y = g(2); fail; by {98; 100; @63; 0; 0}") + called);
        Kit.dueFault(5, one("@y = g(-2); fail; by {98; 100; 64; 0; 0}") + called);
        Kit.dueFault(4, one("y = g(-1); fail; by {98; 100; 1; @0; 0}") + called);
        Kit.dueFault(5, one("@y = g(-1); fail; by {98; 100; 1; 50000098; 100}")
                + called.replace("9 >= m", "99999999 >= m"));
        // gives, at return
        Kit.dueFault(5, "method f(n) steps 9 cells 0 gives result^6 >= 0 { var x; a: x = n * n; @return x; by {7; 0; 0} }");
        Kit.dueFault(4, "method f(n) steps 9 cells 0 gives result^4 >= 0 { var x; a: x = n * n; return x; by {7; 0; @0} }");
    }
}
