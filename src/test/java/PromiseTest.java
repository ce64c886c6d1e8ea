/** For each promise of the document: ordinary inputs, its edges, and wrong inputs. */
public final class PromiseTest {
    private static final int NONE = -1;
    private static final String TINY = "method f() steps 1 cells 0 { a: return 7; by {0; 0} }";

    public static void main(String[] args) {
        newObject();
        feed();
        judge();
        fault();
        give();
        run();
        aboutEnds();
        aboutFailures();
        result();
        cell();
        bound();
        count();
        shown();
        term();
        overs();
        Kit.end();
    }

    /** Promise 1. */
    private static void newObject() {
        BoundHouse house = new BoundHouse();
        Kit.due("1: fault(0)", house.fault(0), NONE);
        Kit.due("1: fault(1)", house.fault(1), NONE);
        Kit.due("1: run", house.run(0, 0, 0, 0), NONE);
        Kit.due("1: result", house.result(), 0);
        Kit.due("1: cell", house.cell(1, 0), 0);
        Kit.due("1: bound", house.bound(0, 0, 0, 0, 0), NONE);
        Kit.due("1: overs", house.overs(), 0);
        for (int what = -1; what < 10; what++) {
            Kit.due("1: about(" + what + ")", house.about(what), NONE);
            Kit.due("1: shown(0, " + what + ")", house.shown(0, what), NONE);
            Kit.due("1: term(0, 0, " + what + ")", house.term(0, 0, what), 0);
            Kit.due("1: count(" + what + ")", house.count(what), what >= 0 && what <= 3 ? 0 : NONE);
        }
        Kit.due("1: judge(1) without a text", house.judge(1), NONE);
        Kit.due("1: give, the first", house.give(3), 1);
    }

    /** Promise 2. */
    private static void feed() {
        BoundHouse house = new BoundHouse();
        for (int k = 1; k <= 200; k++) {
            Kit.due("2: feed " + k, house.feed(0x20202020, 0x20202020, 0x20202020, 0x20202020, 0x20202020), 20 * k);
        }
        Kit.due("2: feed 201", house.feed(1, 2, 3, 4, 5), NONE);
        Kit.due("2: judge(4000), blanks", house.judge(4000), 0);
        Kit.due("2: the text is gone", house.judge(1), NONE);
        // "method f() " and then a byte that no text has, in each place of a number
        for (int byteOf = 0; byteOf < 4; byteOf++) {
            house.feed(0x6D657468, 0x6F642066, 0x28292020, 0x20202020 ^ 0xA0 << 8 * byteOf, -1);
            Kit.due("2: judge with a wrong byte", house.judge(20), 1);
            Kit.due("2: its place", house.fault(1), 12 + 3 - byteOf);
        }
        Kit.due("2: feed of all ones", house.feed(-1, -1, -1, -1, -1), 20);
        Kit.due("2: feed of lowest ints", house.feed(Integer.MIN_VALUE, 0, 0, 0, Integer.MAX_VALUE), 40);
    }

    /** Promise 3. */
    private static void judge() {
        BoundHouse house = new BoundHouse();
        Kit.due("3: text", Kit.feed(house, TINY), 60);
        Kit.due("3: judge(-1)", house.judge(-1), NONE);
        Kit.due("3: judge(lowest)", house.judge(Integer.MIN_VALUE), NONE);
        Kit.due("3: judge(61)", house.judge(61), NONE);
        Kit.due("3: judge(highest)", house.judge(Integer.MAX_VALUE), NONE);
        Kit.due("3: NONE is no judge", house.fault(0), NONE);
        Kit.due("3: judge(all)", house.judge(60), 0);
        Kit.due("3: the text is gone", house.judge(1), NONE);
        Kit.due("3: methods", house.count(0), 1);
        Kit.due("3: not run yet", house.about(0), NONE);
        Kit.due("3: run", house.run(0, 0, 0, 0), 0);
        Kit.due("3: refused", Kit.judge(house, "method"), 1);
        Kit.due("3: refused, and the text is gone", house.judge(1), NONE);
        Kit.due("3: refused, program stays", house.count(0), 1);
        Kit.due("3: refused, run stays", house.result(), 7);
        Kit.due("3: refused, about stays", house.about(1), 1);
        Kit.due("3: refused, shown stays", house.shown(0, 0), TINY.indexOf("0; 0}"));
        Kit.due("3: the first n bytes alone", Kit.feed(house, TINY + " nonsense"), 80);
        Kit.due("3: the first n bytes alone, judged", house.judge(TINY.length()), 0);
        Kit.due("3: taken, not run yet", house.about(0), NONE);
        Kit.due("3: taken, no result yet", house.result(), 0);
        String half = TINY.substring(0, 19) + " ".repeat(4000 - TINY.length()) + TINY.substring(19);
        Kit.due("3: 4,000 bytes", Kit.judge(house, half), 0);
        Kit.due("3: 4,000 bytes, the place of a witness", house.shown(1, 0), 3996);
        Kit.due("3: 4,000 bytes, the last one wrong", Kit.judge(house, half.substring(0, 3999) + "0"), 1);
        Kit.due("3: 4,000 bytes, its place", house.fault(1), 3999);
        String tiny = "method f() steps 1 cells 0{a:fail;by{" + "0+".repeat(1978) + "0;0}}";
        Kit.due("3: 4,000 bytes, nearly all tokens, and far too many terms", Kit.judge(house, tiny), 2);
        Kit.due("3: 4,000 bytes, the 21st term", house.fault(1), 37 + 40);
        Kit.due("3: 4,000 bytes, as long as that", tiny.length(), 3998);
        dueCut("method f() steps 1", "cells", 1, 18);
        dueCut("method f() steps 12345678", "9", 1, 25);
        dueCut("method abcdefgh", "i", 1, 15);
        dueCut("method f(n) needs n >", "= 0", 1, 20);
        dueCut("method f() steps 1 cells 0 { a: return 7; by {0; 0} }", "x", 0, NONE);
        dueCut("method f() steps 1 cells 0 { a: return 7; by {0; 0} }", "\u0000", 0, NONE);
        Kit.due("3: judge(0), the program of no methods", house.judge(0), 0);
        Kit.due("3: no methods", house.count(0), 0);
        Kit.due("3: none to run", house.run(0, 0, 0, 0), NONE);
    }

    /** What stands behind the first n bytes is not looked at. */
    private static void dueCut(String text, String behind, int fault, int place) {
        BoundHouse house = new BoundHouse();
        Kit.feed(house, text + behind);
        Kit.due("3: " + text + " ahead of " + behind, house.judge(text.length()), fault);
        Kit.due("3: its place", house.fault(1), place);
    }

    /** Promise 4; FaultTest has what each FAULT is. */
    private static void fault() {
        BoundHouse house = new BoundHouse();
        Kit.judge(house, "method f() steps 1 cells 0 { a: return 7; by {1; 0} }");
        Kit.due("4: fault(0)", house.fault(0), 4);
        Kit.due("4: fault(1)", house.fault(1), 46);
        Kit.due("4: fault(2)", house.fault(2), NONE);
        Kit.due("4: fault(-1)", house.fault(-1), NONE);
        Kit.due("4: judge that is NONE", house.judge(1), NONE);
        Kit.due("4: fault(0) of the latest that was not", house.fault(0), 4);
        Kit.judge(house, TINY);
        Kit.due("4: fault(0) without", house.fault(0), 0);
        Kit.due("4: fault(1) without", house.fault(1), NONE);
        Kit.judge(house, "!");
        Kit.due("4: fault(1) at 0", house.fault(1), 0);
        String[] faulty = {"method", "method f() steps g cells 0 { a: fail; }", "method f() steps 1 cells 0 { a: fail; }",
            "method f() steps 1 cells 0 { a: fail; by {1; 0} }", "method f() steps 99999999 + 1 cells 0 { a: fail; }",
            "method f() steps 9 cells 0 { a: fail; by {8; 99999999+1} }",
            "method f(n) steps 9 cells 0 { var x,y; a: x = n + 99999999; y = x + x; fail; by {6; 0} }"};
        int[] faults = {1, 2, 3, 4, 5, 5, 5};
        for (int one = 0; one < faulty.length; one++) {
            Kit.due("4: " + faulty[one], Kit.judge(house, faulty[one]), faults[one]);
            Kit.due("4: a text behind it", Kit.judge(house, TINY), 0);
            for (int two = 0; two < faulty.length; two++) {
                Kit.judge(house, faulty[one]);
                Kit.due("4: " + faulty[two] + " behind another", Kit.judge(house, faulty[two]), faults[two]);
            }
        }
    }

    /** Promise 5. */
    private static void give() {
        BoundHouse house = Kit.taken("method f() steps 9 cells 0 { var x,y,z; a: x = read; y = read; z = x - y;"
                + " return z; by {5; 0} }");
        house.run(0, 0, 0, 0);
        Kit.due("5: nothing given", house.result(), 0);
        Kit.due("5: reads", house.about(8), 2);
        Kit.due("5: give", house.give(Long.MAX_VALUE), 1);
        Kit.due("5: the latest run stays", house.result(), 0);
        house.run(0, 0, 0, 0);
        Kit.due("5: one given", house.result(), Long.MAX_VALUE);
        Kit.due("5: give", house.give(-1), 2);
        Kit.due("5: beyond 64 bits", house.run(0, 0, 0, 0), 1);
        for (int k = 3; k <= 200; k++) {
            Kit.due("5: give " + k, house.give(k), k);
        }
        Kit.due("5: give 201", house.give(1), NONE);
        Kit.due("5: from the first on", house.run(0, 0, 0, 0), 1);
        Kit.judge(house, TINY);
        Kit.due("5: given stays when a program comes", house.give(1), NONE);
    }

    /** Promise 6. */
    private static void run() {
        BoundHouse house = Kit.taken(Texts.ARRAYS);
        Kit.due("6: run", house.run(1, 3, 5, -9), 0);
        Kit.due("6: method -1", house.run(-1, 3, 5, 0), NONE);
        Kit.due("6: method 2", house.run(2, 3, 5, 0), NONE);
        Kit.due("6: method highest", house.run(Integer.MAX_VALUE, 3, 5, 0), NONE);
        Kit.due("6: needs u >= 0", house.run(1, -1, 5, 0), NONE);
        Kit.due("6: needs w - u >= 0", house.run(1, 6, 5, 0), NONE);
        Kit.due("6: NONE does nothing", house.about(1), 8);
        Kit.due("6: at the edge", house.run(1, 0, 0, 0), 0);
        Kit.due("6: fails", house.run(1, 0, 4999, 0), 1);
        Kit.due("6: anew", house.run(1, 1, 1, 1), 0);
        Kit.due("6: arrays anew", house.about(7), 2);
        BoundHouse high = Kit.taken("method f(n) needs n^6 >= 0, 99999999*n^2 + 5 >= 0 steps 1 cells 0"
                + " { a: return n; by {0; 0} }");
        Kit.due("6: need of 64 bits, low", high.run(0, -1000, 0, 0), 0);
        Kit.due("6: n^6 beyond 64 bits", high.run(0, 2000, 0, 0), NONE);
        Kit.due("6: n^6 just not beyond", high.run(0, 1448, 0, 0), 0);
        Kit.due("6: n^6 just beyond", high.run(0, 1449, 0, 0), NONE);
        BoundHouse order = Kit.taken("method f(n,m) needs n^2*m - n*m^2 >= 0 steps 1 cells 0 { a: return n; by {0; 0} }");
        Kit.due("6: n^2*m beyond 64 bits, though the sum is 0",
                order.run(0, 2147483647, 2147483647, 0), NONE);
        Kit.due("6: the sum is 0", order.run(0, 2000000, 2000000, 0), 0);
    }

    /** Promise 7. */
    private static void aboutEnds() {
        BoundHouse house = Kit.taken(Texts.RECURSION);
        house.run(0, 29, 0, 0);
        dueAbout(house, "7: 30 open calls", 0, 5 * 29 + 2, 0, 30, 30, NONE, NONE, 0, 0);
        house.run(0, 30, 0, 0);
        dueAbout(house, "7: a 31st open call", 1, 3 * 30, 0, 30, 30, Texts.RECURSION.indexOf("q = r(m)"), 6, 0, 0);
        Kit.due("7: about(9)", house.about(9), NONE);
        Kit.due("7: about(-1)", house.about(-1), NONE);
        Kit.due("7: about(lowest)", house.about(Integer.MIN_VALUE), NONE);
        BoundHouse loop = Kit.taken("method f(n) needs n >= 0 steps 5*n + 6 cells 0 { var i,x; top: x = 0; x = 0;"
                + " goto head; by {3+5*#0; 0; 0; #0; 1; 0} head keeps i >= 0, n - i >= 0 left 5*n - 5*i + 2, 0:"
                + " if i < n goto body else out; by {1+5*#2; 0; #1; #3; 0; 0; 5*#2; 0}"
                + " body keeps i >= 0, n - i - 1 >= 0 left 5*n - 5*i + 1, 0: i = i + 1; goto head;"
                + " by {4+5*#2; 0; 1+#1; #2; 2; 0} out left 1, 0: return i; by {0; 0} }");
        loop.run(0, 6665, 0, 0);
        dueAbout(loop, "7: 20,000 steps", 0, 20_000, 0, 1, 1, NONE, NONE, 0, 0);
        loop.run(0, 6666, 0, 0);
        dueAbout(loop, "7: cut", 2, 20_000, 0, 1, 1, NONE, NONE, 0, 0);
        Kit.due("7: cut, no result", loop.result(), 0);
        BoundHouse many = Kit.taken(Texts.ARRAYS);
        many.run(1, 3, 5, 0);
        dueAbout(many, "7: two calls", 0, 8, 10, 3, 2, NONE, NONE, 2, 0);
    }

    /** Promise 7: each way to fail; what CELLS are left is to be shown at each new. */
    private static void aboutFailures() {
        dueFailure(1, "@fail;", "100", 5);
        dueFailure(2, "x = n * n; @x = x * n; return x;", "100", Integer.MAX_VALUE);
        dueFailure(2, "x = n * n; @x = x + x; return x;", "100", Integer.MIN_VALUE);
        dueFailure(2, "x = n * n; y = 0 - x; y = y - x; @y = y - 1; return x;", "100", Integer.MIN_VALUE);
        dueFailure(2, "x = n * n; y = 0 - x; y = y - x; @y = y * -1; return x;", "100", Integer.MIN_VALUE);
        dueFailure(2, "x = n * n; y = 0 - x; y = y - x; @y = -1 * y; return x;", "100", Integer.MIN_VALUE);
        dueFailure(3, "@x = len 1; return x;", "100", 5);
        dueFailure(3, "@x = x[n]; return x;", "100", 5);
        dueFailure(3, "x = -1; @x[n] = 1; return x;", "100", 5);
        dueFailure(3, "x = new 2; x = 2; @x[0] = 1; return x;", "100; 97", 5);
        dueFailure(3, "x = new 2; y = n * 2; x = x + y; @x[0] = 1; return x;", "100; 97", Integer.MIN_VALUE);
        dueFailure(3, "@n[0] = 1; return 0;", "100", -5);
        dueFailure(4, "x = new 2; @x[2] = 1; return x;", "100; 97", 5);
        dueFailure(4, "x = new 2; @y = x[n]; return x;", "100; 97", -1);
        dueFailure(4, "x = new 2; y = n * n; @y = x[y]; return x;", "100; 97", 65536);
        dueFailure(4, "x = new 0; @y = x[0]; return x;", "100; 99", 5);
        dueFailure(5, "@x = new -1; return x;", "100; 100", 5);
        dueFailure(5, "x = new 2; @x = new -2; return x;", "100; 97; 98", 5);
        String twice = "method f(n) needs n >= 0 steps 3 cells n + 12 { var x; a: x = new 10; x = new n;"
                + " return x; by {0; 12+#0; 1+#0; 0} }";
        BoundHouse edge = Kit.taken(twice);
        edge.run(0, 4988, 0, 0);
        dueAbout(edge, "7: 5,000 cells", 0, 3, 5000, 1, 1, NONE, NONE, 2, 0);
        int place = twice.indexOf("x = new n");
        edge.run(0, 4989, 0, 0);
        dueAbout(edge, "7: 5,001 cells", 1, 2, 11, 1, 1, place, 5, 1, 0);
        edge.run(0, Integer.MAX_VALUE, 0, 0);
        dueAbout(edge, "7: very many cells", 1, 2, 11, 1, 1, place, 5, 1, 0);
        String square = "method f(n) needs n >= 0 steps 9 cells n^2 + 1 { var x; a: x = n * n; x = new x;"
                + " return x; by {6; 1+#0*#0; 0} }";
        BoundHouse high = Kit.taken(square);
        high.run(0, Integer.MAX_VALUE, 0, 0);
        dueAbout(high, "7: cells beyond an int", 1, 2, 0, 1, 1, square.indexOf("x = new x"), 5, 0, 0);
    }

    private static void dueFailure(int why, String marked, String cells, int n) {
        String head = "method f(n) steps 100 cells 100 { var x,y; a: ";
        int place = head.length() + marked.indexOf('@');
        int statements = marked.split(";", -1).length - 2;
        int done = marked.substring(0, marked.indexOf('@')).split(";", -1).length;
        BoundHouse house = Kit.taken(head + marked.replace("@", "") + " by {" + (99 - statements) + "; " + cells + "} }");
        Kit.due(marked + " run", house.run(0, n, 0, 0), 1);
        Kit.due(marked + " about(0)", house.about(0), 1);
        Kit.due(marked + " steps", house.about(1), done);
        Kit.due(marked + " place", house.about(5), place);
        Kit.due(marked + " why", house.about(6), why);
        Kit.due(marked + " result", house.result(), 0);
    }

    private static void dueAbout(BoundHouse house, String what, int... want) {
        for (int k = 0; k < want.length; k++) {
            Kit.due(what + ", about(" + k + ")", house.about(k), want[k]);
        }
    }

    /** Promise 8. */
    private static void result() {
        BoundHouse house = Kit.taken("method f(n) steps 5 cells 0 gives result >= n, result <= n { a: goto b;"
                + " by {4; 0; 1; 0} b left 3, 0: if n < 0 goto c else d; by {2; 0; 1; 0; 0; 0}"
                + " c left 1, 0: fail; by {0; 0} d left 2, 0: return n; by {1; 0; 0; 0} }");
        Kit.due("8: ahead of a run", house.result(), 0);
        house.run(0, 2147483647, 0, 0);
        Kit.due("8: returned", house.result(), 2147483647);
        house.run(0, -1, 0, 0);
        Kit.due("8: failed", house.result(), 0);
        house.run(0, 12, 0, 0);
        house.run(1, 13, 0, 0);
        Kit.due("8: NONE leaves it", house.result(), 12);
        dueResult("return -99999999;", "99; 100", 0, -99999999);
        dueResult("x = n / 3; return x;", "98; 100", -7, -3);
        dueResult("x = n / 3; return x;", "98; 100", 7, 2);
        dueResult("x = n % 3; return x;", "98; 100", -7, 2);
        dueResult("x = n % 3; return x;", "98; 100", -6, 0);
        dueResult("x = n % 99999999; return x;", "98; 100", 7, 7);
        dueResult("x = n / 1; x = x - 1; x = x / 99999999; return x;", "96; 100", Integer.MIN_VALUE, -22);
        dueResult("x = n * n; y = 0 - x; y = y - x; y = y % 7; return y;", "95; 100", Integer.MIN_VALUE, 6);
        dueResult("return x;", "99; 100", 5, 0);
        dueResult("x = new 3; x = new 0; return x;", "97; 100; 96; 95", 5, 2);
        dueResult("x = new 3; y = len x; return y;", "97; 100; 96", 5, 3);
        dueResult("x = new 4; x[1] = 5; x[n] = 9; y = x[1]; x = x[n]; y = y * 100; y = y + x; return y;",
                "92; 100; 95", 3, 509);
        dueResult("x = new 4; x[1] = 5; x[n] = 9; y = x[1]; x = x[n]; y = y * 100; y = y + x; return y;",
                "92; 100; 95", 1, 909);
        dueResult("x = new 2; y = new 2; x[1] = 6; y[0] = 7; x = x[1]; y = y[0]; y = y * 10; y = y + x; return y;",
                "91; 100; 97; 94", 1, 76);
    }

    private static void dueResult(String body, String witnesses, int n, long want) {
        BoundHouse house = Kit.taken("method f(n) steps 100 cells 100 { var x,y; a: " + body + " by {" + witnesses
                + "} }");
        Kit.due(body + " run", house.run(0, n, 0, 0), 0);
        Kit.due(body + " with " + n, house.result(), want);
    }

    /** Promise 9. */
    private static void cell() {
        BoundHouse house = Kit.taken("method f(n) needs n >= 0 steps 7 cells 2*n + 2 { var x,y; a: x = new n;"
                + " y = new n; y[1] = x; x[0] = y; y[0] = -9; return x; by {1; 2+2*#0; 1+#0; 0} }");
        Kit.due("9: ahead of a run", house.cell(1, 0), 0);
        house.run(0, 2, 0, 0);
        long[][] want = {{2, 0, 0}, {-9, 1, 0}, {0, 0, 0}};
        for (int k = 1; k <= 3; k++) {
            for (int i = 0; i < 3; i++) {
                Kit.due("9: cell(" + k + ", " + i + ")", house.cell(k, i), want[k - 1][i]);
            }
        }
        int[] wrong = {-1, Integer.MIN_VALUE, Integer.MAX_VALUE, 0};
        for (int bad : wrong) {
            Kit.due("9: ARRAY " + bad, house.cell(bad, 0), 0);
            Kit.due("9: cell " + bad, house.cell(2, bad), bad == 0 ? -9 : 0);
        }
        house.run(0, 1, 0, 0);
        Kit.due("9: failed", house.about(6), 4);
        Kit.due("9: anew, cells are 0", house.cell(2, 0), 0);
        house.run(0, -1, 0, 0);
        Kit.due("9: NONE leaves it", house.about(7), 2);
        Kit.judge(house, TINY);
        Kit.due("9: another program", house.cell(1, 0), 0);
        BoundHouse fill = Kit.taken(Texts.FILL);
        for (long v = 1; v <= 200; v++) {
            fill.give(seventh(v));
        }
        fill.run(0, 210, 0, 0);
        for (int i = 0; i < 210; i++) {
            Kit.due("9: cell " + i + " of many", fill.cell(1, i), i < 200 ? seventh(i + 1) : 0);
        }
        Kit.due("9: reads", fill.about(8), 210);
        BoundHouse many = Kit.taken("method f(n) needs n >= 0 steps 5*n + 7 cells 2*n { var i,x; a: goto h; by {6+5*#0; 2*#0;"
                + " #0; 2; 0} h keeps n - i >= 0 left 5*n - 5*i + 4, 2*n - 2*i: if i < n goto b else o; by {3+5*#1; 2*#1;"
                + " #2; 0; 0; 2+5*#1; 2*#1} b keeps n - i - 1 >= 0 left 5*n - 5*i + 3, 2*n - 2*i: x = new 1; x[0] = i;"
                + " i = i + 1; goto h; by {4+5*#1; 2+2*#1; 2*#1; #1; 0; 0} o left 1, 0: return i; by {0; 0} }");
        many.run(0, 2500, 0, 0);
        Kit.due("9: many arrays", many.about(7), 2500);
        Kit.due("9: all cells", many.about(2), 5000);
        for (int k = 1; k <= 2500; k += 7) {
            Kit.due("9: cell(" + k + ", 0)", many.cell(k, 0), k - 1);
        }
        many.run(0, 2501, 0, 0);
        Kit.due("9: one array too many", many.about(6), 5);
        Kit.due("9: the last one there", many.cell(2500, 0), 2499);
        Kit.due("9: behind the last one", many.cell(2501, 0), 0);
    }

    private static long seventh(long v) {
        return v * v * v * v * v * v * v;
    }

    /** Promise 10. */
    private static void bound() {
        BoundHouse house = Kit.taken(Texts.ARRAYS);
        Kit.due("10: steps", house.bound(1, 0, 3, 5, 99), 3 * 5 + 3 * 3 + 14);
        Kit.due("10: cells", house.bound(1, 1, 3, 5, 99), 10);
        Kit.due("10: steps of the first", house.bound(0, 0, 3, -5, 99), 13);
        Kit.due("10: what 2", house.bound(1, 2, 3, 5, 0), NONE);
        Kit.due("10: what -1", house.bound(1, -1, 3, 5, 0), NONE);
        Kit.due("10: method 2", house.bound(2, 0, 3, 5, 0), NONE);
        Kit.due("10: method -1", house.bound(-1, 0, 3, 5, 0), NONE);
        Kit.due("10: not met", house.bound(1, 0, 5, 3, 0), NONE);
        Kit.due("10: high", house.bound(1, 0, 0, Integer.MAX_VALUE, 0), 3L * Integer.MAX_VALUE + 14);
        house.run(1, 1, 1, 0);
        house.bound(1, 0, 3, 5, 0);
        Kit.due("10: the run stays", house.about(2), 4);
        BoundHouse high = Kit.taken("method f(n,m) needs n >= 0, m >= 0 steps n^3 + m^3 + 1 cells 2*n^2*m { a:"
                + " return n; by {#0*#0*#0+#1*#1*#1; 2*#0*#0*#1} }");
        Kit.due("10: 2^63 - 1 at most", high.bound(0, 0, 2097151, 1, 0), 2097151L * 2097151 * 2097151 + 2);
        Kit.due("10: a power beyond", high.bound(0, 0, 2097152, 1, 0), NONE);
        Kit.due("10: a sum beyond", high.bound(0, 0, 2097151, 2097151, 0), NONE);
        Kit.due("10: cells not beyond", high.bound(0, 1, 1048576, 4194303, 0), 2L * 1048576 * 1048576 * 4194303);
        Kit.due("10: cells beyond", high.bound(0, 1, 1048576, 4194304, 0), NONE);
    }

    /** Promise 11. */
    private static void count() {
        BoundHouse house = Kit.taken(Texts.ARRAYS);
        int[] want = {2, 2, 13, 25};
        for (int what = 0; what < want.length; what++) {
            Kit.due("11: count(" + what + ")", house.count(what), want[what]);
        }
        Kit.due("11: count(4)", house.count(4), NONE);
        Kit.due("11: count(-1)", house.count(-1), NONE);
        Kit.judge(house, Texts.LOOP + Texts.HALVES + Texts.RECURSION);
        int[] more = {3, 4 + 4 + 3, 26 + 19 + 16, 31 + 25 + 20};
        for (int what = 0; what < more.length; what++) {
            Kit.due("11: of three, count(" + what + ")", house.count(what), more[what]);
        }
        house.judge(0);
        Kit.due("11: none", house.count(2), 0);
    }

    /** Promise 12. */
    private static void shown() {
        BoundHouse house = Kit.taken(Texts.HALVES);
        int place = Texts.HALVES.indexOf("2: #3+#1");
        // x / 2 brings x - 2q and 2q + 1 - x; goto head shows q >= 0: 2q = (2q + 1 - x) + (x - 1)
        int[] want = {place, 2, 4, 1, 2, 2};
        for (int what = 0; what < want.length; what++) {
            Kit.due("12: shown(14, " + what + ")", house.shown(14, what), want[what]);
        }
        Kit.due("12: what 6", house.shown(14, 6), NONE);
        Kit.due("12: what -1", house.shown(14, -1), NONE);
        Kit.due("12: the first", house.shown(0, 0), Texts.HALVES.indexOf("2+8*#0"));
        Kit.due("12: the last", house.shown(18, 1), 3);
        Kit.due("12: 0 has no terms", house.shown(18, 3), 0);
        Kit.due("12: its witness has", house.shown(18, 5), 1);
        Kit.due("12: behind the last", house.shown(19, 0), NONE);
        Kit.due("12: ahead of the first", house.shown(-1, 0), NONE);
        BoundHouse two = Kit.taken(Texts.ARRAYS);
        Kit.due("12: block of all", two.shown(4, 1), 1);
        Kit.due("12: HYPOTHESES behind both calls", two.shown(12, 2), 4);
    }

    /** Promise 13. */
    private static void term() {
        BoundHouse house = Kit.taken("method f(a,b,c) needs a >= 0, b >= 0, c >= 0 steps b^2*c + 7*a + b^2 + a*c + a^2 + 1"
                + " cells 0 { var x; s: x = read; return x; by {#1*#1*#2+#0*#0+#0*#2+#1*#1+7*#0; 0} }", 4);
        Kit.due("13: refused", house.term(0, 0, -1), 0);
        house = Kit.taken("method f(a,b,c) needs a >= 0, b >= 0, c >= 0 steps b^2*c + 7*a + b^2 + a*c + a^2 + 9"
                + " cells 0 { var x,y; s: x = len a; y = x * c; y = t(y, x); return x;"
                + " by {#1*#1*#2+#0*#0+#0*#2+#1*#1+7*#0+5; 0; 2*#3*#2+3*#3; #1*#1*#2+#0*#0+#0*#2+#1*#1+7*#0; 0} }"
                + " method t(u,v) needs 2*u + 3*v >= 0 steps 5 cells 0 { s: return 0; by {4; 0} }");
        // b^2*c, then a^2, a*c, b^2, then a, then the number
        int[][] want = {{1, 0, 2, 1}, {1, 2, 0, 0}, {1, 1, 0, 1}, {1, 0, 2, 0}, {7, 1, 0, 0}, {5, 0, 0, 0}};
        Kit.due("13: terms", house.shown(0, 3), want.length);
        for (int k = 0; k < want.length; k++) {
            for (int what = -1; what < 16; what++) {
                Kit.due("13: term(0, " + k + ", " + what + ")", house.term(0, k, what),
                        what < 3 ? want[k][what + 1] : 0);
            }
        }
        // what statement 0 brings is SYMBOL 6: 2*c*u, then 3*u
        Kit.due("13: coefficient", house.term(2, 0, -1), 2);
        Kit.due("13: of c", house.term(2, 0, 2), 1);
        Kit.due("13: of what statement 0 brings", house.term(2, 0, 6), 1);
        Kit.due("13: the next", house.term(2, 1, -1), 3);
        int[] wrong = {-1, Integer.MIN_VALUE, Integer.MAX_VALUE};
        for (int bad : wrong) {
            Kit.due("13: poly " + bad, house.term(bad, 0, -1), 0);
            Kit.due("13: term " + bad, house.term(0, bad, -1), 0);
            Kit.due("13: what " + bad, house.term(0, 0, bad), bad == -1 ? 1 : 0);
        }
        Kit.due("13: behind the last term", house.term(0, 6, -1), 0);
        int[] noSymbols = {16, 17, 31, 32, 64, -2, -3, -16, -32, Integer.MIN_VALUE, Integer.MAX_VALUE};
        for (int what : noSymbols) {
            for (int k = 0; k < want.length; k++) {
                Kit.due("13: term(0, " + k + ", " + what + ")", house.term(0, k, what), 0);
            }
        }
        Kit.due("13: behind the last poly", house.term(house.count(2), 0, -1), 0);
        Kit.judge(house, "method f(a) needs 5 - a >= 0 steps 6 cells 0 { s: return a; by {5; 0} }"
                .replace("steps 6", "steps 6 - a").replace("{5;", "{#0;"));
        Kit.due("13: below 0", house.term(0, 0, -1), -1);
    }

    /** Promise 14: none in what is taken; OracleTest has runs of what is not proved. */
    private static void overs() {
        BoundHouse house = Kit.taken(Texts.LOOP);
        Kit.due("14: ahead of a run", house.overs(), 0);
        house.run(0, 100000, 0, 0);
        Kit.due("14: cut", house.overs(), 0);
        Kit.due("14: the run stays", house.about(1), 20000);
        house.run(0, 3, 0, 0);
        Kit.due("14: returned", house.overs(), 0);
        Kit.due("14: the result stays", house.result(), 3);
        BoundHouse high = Kit.taken("method f(n) needs n >= 0 steps 4 cells 0 { a: goto b; by {3; 0; #0*#0*#0*#0; 1; 0}"
                + " b keeps n^4 >= 0 left 2, 0: return n; by {1; 0} }");
        high.run(0, Integer.MAX_VALUE, 0, 0);
        Kit.due("14: exact beyond 64 bits", high.overs(), 0);
        BoundHouse reads = Kit.taken("method f() steps 2 cells 0 { var x; a: x = read; return x; by {0; 0} }");
        reads.run(0, 0, 0, 0);
        reads.give(5);
        Kit.due("14: with what was given then", reads.overs(), 0);
        Kit.due("14: the result stays as it was", reads.result(), 0);
    }
}
