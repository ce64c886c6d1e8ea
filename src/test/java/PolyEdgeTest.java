import java.util.ArrayList;
import java.util.List;

/** Terms, chapter III: for each of its sentences that names an edge a test; the sign @ stands at the place that is due. */
public final class PolyEdgeTest {
    /** (1 + n + m + k)^5 in y, of 56 terms, by seven statements; x is 1 + n + m + k, and z is what nobody knows. */
    private static final String MANY = "z = read; x = n + m; x = x + k; x = x + 1; y = x * x; y = y * y; y = y * x; ";
    private static final String THREE = "method f(n,m,k) needs n >= 0 steps 100 cells 100 { var x,y,z; a: ";

    public static void main(String[] args) {
        polysOfTheText();
        differencesOfConds();
        sumsOfStatements();
        differencesOfStatements();
        productsOfStatements();
        powersOfProducts();
        termsOfStatements();
        sumsOfWhatComes();
        stepsAndCells();
        putForSymbols();
        putInOrder();
        timesTheWitnessNumber();
        termsOfAWitness();
        sixtyTermsOfAWitness();
        orderOfTerms();
        Kit.end();
    }

    private static void taken(String text) {
        Kit.dueFault(text, 0, -1);
    }

    /** A method of 100 steps and 100 cells; n is 0 or more. */
    private static String one(String body) {
        return "method f(n) needs n >= 0 steps 100 cells 100 { var x,y,z; a: " + body + " }";
    }

    /** "a coefficient beyond 99,999,999 either way .. a power above 9 in that of any two terms": each mono from the left. */
    private static void polysOfTheText() {
        String[] fit = {"99999999", "-99999999", "99999998 + 1", "-99999998 - 1", "1 + 99999998", "99999999*n", "-99999999*n",
            "33333333*3", "3*33333333*n", "n*33333333*3*m", "9999*10001", "n*9999*10001", "50000000*n + 49999999*n",
            "99999999*n + 99999999*m + 99999999", "99999999*n - 99999999*n + 99999999*n", "n^6*n^3", "n^6*n^2*n", "n^3*n^6*m^6*m^3",
            "n*m*n^6*n^2", "0*n^6*n^6", "n*0*n^6*n^6", "0*99999999*99999999", "99999999*0*99999999", "n^4*m^6*n^5",
            "99999999*n^6*n^3"};
        String[] big = {"99999999 + 1", "-99999999 - 1", "1 + 99999999", "99999999*n + n", "-n - 99999999*n", "10000*10000",
            "50000000*2", "n*50000000*2", "2*n*m*50000000", "99999999 + 1 - 1", "-1 - 99999999 + 1", "99999999*n + 1*n - n*2",
            "n*2 + 99999999*n - n*2", "99999999*2*0", "99999999*n*2*0", "n^6*n^4", "n^5*n^5", "n*m*n^6*n^3", "n^6*n^3*n", "n^6*n^4*0",
            "m*n^6*n^6", "n + n^6*n^6 - n^6*n^6", "99999999*99999999", "n^6*m^6*n^3*m^4"};
        String[] places = {"method f(n,m) needs P >= 0 steps 1 cells 0 { @a: fail; }",
            "method f(n,m) needs 0 >= P steps 1 cells 0 { @a: fail; }", "method f(n,m) needs P <= 0 steps 1 cells 0 { @a: fail; }",
            "method f(n,m) needs n >= 0, 0 <= P steps 1 cells 0 { @a: fail; }", "method f(n,m) steps P cells 0 { @a: fail; }",
            "method f(n,m) steps 1 cells P { @a: fail; }", "method f(n,m) steps 1 cells 0 gives P >= 0 { @a: fail; }",
            "method f(n,m) steps 1 cells 0 gives result >= 0, 0 >= P { @a: fail; }",
            "method f(n,m) steps 1 cells 0 { @a: fail; b keeps P >= 0 left 1, 0: fail; }",
            "method f(n,m) steps 1 cells 0 { @a: fail; b keeps 0 <= P left 1, 0: fail; }",
            "method f(n) steps 1 cells 0 { var m; @a: fail; b left P, 0: fail; }",
            "method f(n) steps 1 cells 0 { var m; @a: fail; b left 1, P: fail; }"};
        for (String place : places) {
            for (String poly : fit) {
                // no poly is TOO BIG: the next fault is that there are no witnesses
                Kit.dueFault(3, place.replace("P", poly));
            }
            for (String poly : big) {
                Kit.dueFault(5, place.replace("@", "").replace("P", "@" + poly));
            }
        }
        // result is a SYMBOL as others are
        String gives = "method f(n,m) steps 1 cells 0 gives ";
        Kit.dueFault(3, gives + "result^6*result^3 >= 0, 99999999*result <= 0 { @a: fail; }");
        Kit.dueFault(5, gives + "@result^6*result^4 >= 0 { a: fail; }");
        Kit.dueFault(5, gives + "0 >= @99999999*result + result { a: fail; }");
        // the first of several, by the text
        Kit.dueFault(5, "method f(n) needs n >= @99999999*2, 99999999*2 >= 0 steps 99999999*2 cells 99999999*2 { a: fail; }");
        Kit.dueFault(5, "method f(n) steps 1 cells @99999999*2 gives 99999999*2 >= 0 { a: fail; b left 99999999*2, 0: fail; }");
        Kit.dueFault(5, "method f(n) steps 1 cells 0 { a: fail; b left 1, @99999999*2: fail; c left n^6*n^6, 0: fail; }");
        Kit.dueFault(5, "method f(n) steps 1 cells 0 { a: fail; by {1; 0} } method g(n) steps 1 cells @n^6*n^6 { a: fail; }");
    }

    /** "in a cond (the difference: of >= the left one less the right one, of <= the other way round)", at the cond. */
    private static void differencesOfConds() {
        String[] fit = {"99999999 >= 0", "99999998 >= -1", "-99999999 >= 0", "-99999998 >= 1", "0 >= 99999999", "0 >= -99999999",
            "99999999 <= 0", "0 <= 99999999", "-1 <= 99999998", "1 <= -99999998", "99999999 >= 99999999", "-99999999 <= -99999999",
            "99999999*n >= 99999999*m", "n >= 99999999 + m", "99999998*n >= -n", "n <= -99999998*n", "n^6*n^3 >= m^6*m^3"};
        String[] big = {"99999999 >= -1", "-99999999 >= 1", "1 >= -99999999", "-1 >= 99999999", "99999999 <= -1", "-99999999 <= 1",
            "1 <= -99999999", "-1 <= 99999999", "99999999 >= -99999999", "m + 99999999*n >= -n - m", "n <= -99999999*n",
            "-n <= m + 99999999*n"};
        String[] places = {"method f(n,m) needs P steps 1 cells 0 { @a: fail; }", "method f(n,m) needs n >= 0, P steps 1 cells 0 { @a: fail; }",
            "method f(n,m) steps 1 cells 0 gives result >= n, P { @a: fail; }",
            "method f(n,m) steps 1 cells 0 { @a: fail; b keeps n <= 0, P left 1, 0: fail; }"};
        for (String place : places) {
            for (String cond : fit) {
                Kit.dueFault(3, place.replace("P", cond));
            }
            for (String cond : big) {
                Kit.dueFault(5, place.replace("@", "").replace("P", "@" + cond));
            }
        }
        // its polys go ahead of the difference: the right one here, though the difference is TOO BIG, too
        Kit.dueFault(5, "method f(n) needs 99999999 >= @-99999999 - 1 steps 1 cells 0 { a: fail; }");
        Kit.dueFault(5, "method f(n) needs @99999999*2 >= 99999999*2 steps 1 cells 0 { a: fail; }");
        // "it means that this is 0 or more"
        BoundHouse house = Kit.taken("method f(n,m) needs n >= m + 2, n <= m + 4 steps 1 cells 0 { a: return n; by {0; 0} }");
        for (int n = -3; n < 8; n++) {
            Kit.due("2 <= n <= 4 with " + n, house.run(0, n, 0, 0), n >= 2 && n <= 4 ? 0 : -1);
        }
    }

    /** A statement that is fit, then one that is TOO BIG, both behind the same ones. */
    private static void dueStatement(String ahead, String fit, String big) {
        int many = ahead.split(";").length;
        taken(one(ahead + fit + "; fail; by {" + (98 - many) + "; 100}"));
        Kit.dueFault(5, one(ahead + "@" + big + "; fail; by {" + (98 - many) + "; 100}"));
    }

    /** "in each sum ..". */
    private static void sumsOfStatements() {
        dueStatement("x = 99999998;", "y = x + 1", "y = x + 2");
        dueStatement("x = -99999998;", "y = x + -1", "y = x + -2");
        dueStatement("x = 99999999;", "y = x + 0", "y = x + 1");
        dueStatement("x = 99999999;", "y = x + n", "y = x + x");
        dueStatement("x = 1;", "y = 99999998 + x", "y = 99999999 + x");
        dueStatement("x = 99999998 * n;", "y = x + n", "y = x + x");
        dueStatement("x = 99999998 * n; x = x + n;", "y = x + 5", "y = n + x");
        dueStatement("x = -99999998 * n; z = -1 * n;", "y = x + z", "y = x + x");
        dueStatement("z = read; x = 50000000 * z; y = x - z;", "y = x + y", "y = x + x");
    }

    /** ".. difference ..". */
    private static void differencesOfStatements() {
        dueStatement("x = 99999998;", "y = x - -1", "y = x - -2");
        dueStatement("x = -99999998;", "y = x - 1", "y = x - 2");
        dueStatement("x = 99999999;", "y = 0 - x", "y = -1 - x");
        dueStatement("x = -99999999;", "y = 0 - x", "y = 1 - x");
        dueStatement("x = 99999999;", "y = x - x", "y = -99999999 - x");
        dueStatement("x = -99999998 * n; z = 2 * n;", "y = x - n", "y = x - z");
        dueStatement("x = -99999999 * n;", "y = x - 7", "y = x - n");
        dueStatement("x = -99999999 * n;", "y = 7 - x", "y = n - x");
    }

    /** ".. and product". */
    private static void productsOfStatements() {
        dueStatement("x = 33333333;", "y = x * 3", "y = x * 4");
        dueStatement("x = 33333333;", "y = x * -3", "y = x * -4");
        dueStatement("x = 9999;", "y = x * 10001", "y = x * 10002");
        dueStatement("x = 50000000 * n;", "y = x * 1", "y = x * 2");
        dueStatement("x = 50000000 * n;", "y = x * 0", "y = x * x");
        dueStatement("x = n + 50000000;", "y = x * 1", "y = x * 2");
        dueStatement("x = n + 9999;", "y = x * x", "y = x * 10002");
        dueStatement("x = n + 9999; y = n - 9999;", "z = x * y", "z = x * 99999");
        dueStatement("x = n + 10000; y = n - 10000;", "z = n * y", "z = x * y");
        // like terms are put together, then looked at: 9999*9000 of n comes twice, once less than 0
        dueStatement("x = 9999 * n; y = x - 9000; x = x + 9000;", "z = x * y", "z = x * x");
    }

    /** "in a product also a power above 9 in that of any two terms (though it go)". */
    private static void powersOfProducts() {
        String nine = "x = n * n; x = x * n; x = x * x; x = x * n; x = x * n; ";
        taken(one(nine + "y = x * n; fail; by {93; 100}"));
        Kit.dueFault(5, one(nine + "y = x * n; @z = y * n; fail; by {92; 100}"));
        Kit.dueFault(5, one(nine + "@y = x * x; fail; by {93; 100}"));
        taken(one(nine + "y = x * n; z = read; y = y * z; z = z * z; y = y * z; fail; by {89; 100}"));
        taken(one(nine + "y = x * n; y = y * 0; y = y * n; fail; by {91; 100}"));
        taken(one(nine + "y = x * n; z = 0; y = y * z; fail; by {91; 100}"));
        // (n^5 + z)(n^5 - z): n^10 stays; (n^8 + n^7 - n^8 ..): one pair of terms is enough
        taken(one("x = n * n; x = x * x; y = x + 1; y = x * y; fail; by {95; 100}"));
        Kit.dueFault(5, one("x = n * n; y = x * x; x = y * n; y = x + 1; @y = x * y; fail; by {94; 100}"));
        // the terms of n^5 and of x n^5 go with one another in (x + n^5)(x - n^5) but for n^10
        Kit.dueFault(5, one("y = n * n; y = y * y; y = y * n; z = read; x = z + y; z = z - y; @x = x * z; fail; by {92; 100}"));
        // "though it go": n^10 z, once more and once less
        Kit.dueFault(5, "method f(n,m) needs n^5 - m*n^5 >= 0, n^5 + m*n^5 >= 0, 1 >= 0 steps 9 cells 0 { a: fail; by {8; @#0*#1} }");
        Kit.dueFault(5, "method f(n,m) needs n^6 + n^5 >= 0, n^4 - n^5 >= 0 steps 9 cells 0 { a: fail; by {8; @#0*#1} }");
        Kit.dueFault(4, "method f(n,m) needs n^5 + n^4 >= 0, n^3 - n^4 >= 0 steps 9 cells 0 { a: fail; by {8; @#0*#1} }");
        // of each SYMBOL, the last one, too
        String last = "x = 1; x = 1; x = 1; x = 1; x = 1; z = read; x = z * z; x = x * z; x = x * x; ";
        taken(one(last + "y = x * z; fail; by {89; 100}"));
        Kit.dueFault(5, one(last + "@y = x * x; fail; by {89; 100}"));
        Kit.dueFault(3, "method f(a,b,n) steps 1 cells 0 { @a: fail; b left n^6*n^3*b^6*b^3, 0: fail; }");
        Kit.dueFault(5, "method f(a,b) steps 1 cells 0 { var u,v,w,z; a: fail; b left @z^6*z^4, 0: fail; }");
        Kit.dueFault(3, "method f(a,b) steps 1 cells 0 { var u,v,w,z; @a: fail; b left z^6*z^3, w^6*w^3*z^6*z^3: fail; }");
    }

    /** "more than 60 terms". */
    private static void termsOfStatements() {
        // 56 terms and 4 or 5 more: z, n z, m z, k z, and z^2
        taken(THREE + MANY + "x = x * z; y = y + x; fail; by {90; 100} }");
        Kit.dueFault(5, THREE + MANY + "x = x + z; x = x * z; @y = y + x; fail; by {89; 100} }");
        taken(THREE + MANY + "x = x * z; y = y - x; fail; by {90; 100} }");
        Kit.dueFault(5, THREE + MANY + "x = x + z; x = x * z; @y = y - x; fail; by {89; 100} }");
        taken(THREE + MANY + "x = x * z; y = x - y; fail; by {90; 100} }");
        Kit.dueFault(5, THREE + MANY + "x = x + z; x = x * z; @y = x - y; fail; by {89; 100} }");
        // (1 + n + m + k)^3 (1 + z)^2: 20 times 3
        taken(THREE + "x = n + m; x = x + k; x = x + 1; y = x * x; y = y * x; z = read; z = z + 1; z = z * z; y = y * z;"
                + " fail; by {90; 100} }");
        // (1 + n + m)^2 ((1 + n + m)^7 + u): 55 and 6
        Kit.dueFault(5, THREE + "x = n + m; x = x + 1; y = x * x; z = y * y; z = z * y; z = z * x; x = read; z = z + x;"
                + " @z = z * y; fail; by {90; 100} }");
        // 16 times 16 terms are but 35 when like ones are put together
        taken(THREE + "x = n + m; x = x + k; x = x + 1; y = x * x; y = y * y; fail; by {94; 100} }");
    }

    /** What comes: "n q + n - 1 - a: n times q, and n, less 1, less a", "b - a - 1: b less a, then less 1". */
    private static void sumsOfWhatComes() {
        // a - n q cannot be TOO BIG; n - 1 - a is with a below -1
        taken(one("x = -1; y = x / 99999999; fail; by {97; 100}"));
        Kit.dueFault(5, one("x = -2; @y = x / 99999999; fail; by {97; 100}"));
        taken(one("x = 99999999; y = x / 99999999; fail; by {97; 100}"));
        taken(one("x = -99999999; y = x / 1; fail; by {97; 100}"));
        Kit.dueFault(5, one("x = -99999999; @y = x / 2; fail; by {97; 100}"));
        taken(one("x = -99999998; y = x / 2; fail; by {97; 100}"));
        taken(one("x = n % 99999999; x = n % 1; fail; by {97; 100}"));
        String b = " b left 1, 0: fail; by {0; 0}";
        String by = "; by {97; 100; 96; 100; 96; 100}";
        // x < y tells y - x - 1, then x - y; x > y tells x - y - 1, then y - x
        taken(one("x = -99999999; y = 0; if x < y goto b else b" + by + b));
        Kit.dueFault(5, one("x = -99999999; y = 1; @if x < y goto b else b" + by + b));
        Kit.dueFault(5, one("x = 99999999; y = 0; @if x < y goto b else b" + by + b));
        taken(one("x = 99999998; y = 0; if x < y goto b else b" + by + b));
        taken(one("x = 99999999; y = 0; if x > y goto b else b" + by + b));
        Kit.dueFault(5, one("x = -99999999; y = 0; @if x > y goto b else b" + by + b));
        taken(one("x = -99999998; y = 0; if x > y goto b else b" + by + b));
        taken(one("x = -99999999; y = 0; if x >= y goto b else b" + by + b));
        Kit.dueFault(5, one("x = 99999999; y = -1; @if x >= y goto b else b" + by + b));
        Kit.dueFault(5, one("x = 99999999; y = 0; @if x >= y goto b else b" + by + b));
        taken(one("x = 99999999; y = 0; if x <= y goto b else b" + by + b));
        Kit.dueFault(5, one("x = -99999999; y = 0; @if x <= y goto b else b" + by + b));
        taken(one("x = 99999999; y = 0; if x == y goto b else b" + by + b));
        Kit.dueFault(5, one("x = 99999999; y = -1; @if x == y goto b else b" + by + b));
        Kit.dueFault(5, one("x = 99999999; y = -1; @if x != y goto b else b" + by + b));
        taken(one("x = 99999999; y = 0; if x != y goto b else b" + by + b));
        // new a: a + 1 is worked, then taken off C
        Kit.dueFault(4, one("x = new 99999998; fail; by {98; 100; @0}"));
        Kit.dueFault(5, one("@x = new 99999999; fail; by {98; 100; 0}"));
    }

    /** S less the statements less 1, at the block's name; C less what new and calls take, at the statement. */
    private static void stepsAndCells() {
        Kit.dueFault(4, one("fail; by {99; 100} b left -99999998, 0: fail; by {@0; 0}"));
        Kit.dueFault(5, one("fail; by {99; 100} @b left -99999999, 0: fail; by {0; 0}"));
        Kit.dueFault(4, one("fail; by {99; 100} b left -99999996, 0: x = 1; x = 1; fail; by {@0; 0}"));
        Kit.dueFault(5, one("fail; by {99; 100} @b left -99999997, 0: x = 1; x = 1; fail; by {0; 0}"));
        Kit.dueFault(5, one("fail; by {99; 100} @b left -99999998, 0: x = 1; x = 1; fail; by {0; 0}"));
        Kit.dueFault(4, one("fail; by {99; 100} b left 9, -99999999: fail; by {8; @0}"));
        String cells = "method f() steps 9 cells ";
        Kit.dueFault(4, one("fail; by {99; 100} b keeps x >= 0, -x >= 0 left 9, x - 99999998: fail; by {8; @0}"));
        taken(cells + "99999999 { var x; a: x = new 99999998; fail; by {7; 99999999; 0} }");
        String less = one("fail; by {99; 100} b keeps 0 - 1 >= 0 left 9, -1: x = new 99999997; fail; by {7; #1; W; 0}");
        Kit.dueFault(4, less.replace("W; 0", "@99999999*#1+1"));
        Kit.dueFault(5, less.replace("W; 0", "0").replace("x = new 99999997", "@x = new 99999998"));
        String g = " method g(p) steps 99999998*p cells 99999998*p { a: fail; }";
        Kit.dueFault(4, one("fail; by {99; 100} b keeps 0 - 1 >= 0 left 1, 0: x = g(1); fail; by {#1; 0; @99999999*#1+1; 0}") + g);
        Kit.dueFault(5, one("fail; by {99; 100} b keeps 0 - 1 >= 0 left 0, 0: @x = g(1); fail; by {2*#1; 0; 0; 0}") + g);
        Kit.dueFault(5, one("fail; by {99; 100} b keeps 0 - 1 >= 0 left 9, -2: @x = g(1); fail; by {7; 2*#1; 99999991*#1; 0}") + g);
    }

    /** "To PUT polys for SYMBOLS into one: .. its coefficient, times the poly of each SYMBOL in turn, once for each power". */
    private static void putForSymbols() {
        String b = " b keeps K >= 0 left 1, 0: fail; by {0; 0}";
        dueKeeps("x = 99999999;", "x", "x + 1");
        dueKeeps("x = -99999999;", "x", "x - 1");
        dueKeeps("x = 33333333;", "3*x", "4*x");
        dueKeeps("x = 9999;", "10001*x", "10002*x");
        dueKeeps("x = 9999;", "x^2", "x^3");
        dueKeeps("x = 464;", "x^3", "x^4");
        dueKeeps("x = 465; y = 215;", "x^2*y", "x^3*y");
        dueKeeps("x = n * n; x = x * n;", "x^3", "x^4");
        dueKeeps("x = n * n; y = x * x;", "x^2*y*n", "x^2*y*n^2");
        // the first SYMBOL first: n^9 times 0 is worked from the left; what is 0 stays so
        Kit.dueFault(5, one("x = n * n; y = 0; @goto b; by {97; 100; 0; 96; 100}" + b.replace("K", "x^5*y")));
        taken(one("x = 0; y = n * n; goto b; by {97; 100; 0; 96; 100}" + b.replace("K", "x*y^5")));
        // the coefficient comes first
        Kit.dueFault(5, one("x = 2; y = 0; @goto b; by {97; 100; 0; 96; 100}" + b.replace("K", "50000000*x*y")));
        taken(one("x = 0; y = 2; goto b; by {97; 100; 0; 96; 100}" + b.replace("K", "50000000*x*y")));
        // 56 terms and four or five more, that are added one by one
        String sixty = THREE + MANY + "goto b; by {92; 100; W0; 91; 100}"
                + " b keeps y + z*x + Z >= 0 left 1, 0: fail; by {0; 0} }";
        Kit.dueFault(4, sixty.replace("W", "@").replace("Z", "n"));
        Kit.dueFault(5, sixty.replace("W", "").replace("goto b", "@goto b").replace("Z", "z^2"));
        Kit.dueFault(5, sixty.replace("W", "").replace("goto b", "@goto b").replace("Z", "z^2 - z"));
    }

    /** A jump to a block that keeps what is fit, then one to a block that keeps what is TOO BIG when it is PUT. */
    private static void dueKeeps(String ahead, String fit, String big) {
        int many = ahead.split(";").length;
        String by = "goto b; by {" + (99 - many) + "; 100; W; " + (98 - many) + "; 100} b keeps K >= 0 left 1, 0: fail; by {0; 0}";
        BoundHouse house = new BoundHouse();
        Kit.judge(house, one(ahead + by.replace("W", "0").replace("K", fit)));
        Kit.due("PUT into " + fit + " behind " + ahead + " is TOO BIG", house.fault(0) == 5 ? 5 : 0, 0);
        Kit.dueFault(5, one(ahead + "@" + by.replace("W", "0").replace("K", big)));
    }

    /** "its terms in ORDER .. these added one by one": what is TOO BIG on the way is so, though it be less in the end. */
    private static void putInOrder() {
        String b = " b keeps K >= 0 left 1, 0: fail; by {0; 0}";
        // x^2 - x*y + y^2 - ..: with x = y = 9000 each term is 81,000,000
        String ahead = "x = 9000; y = 9000; ";
        taken(one(ahead + "goto b; by {97; 100; 81000000; 96; 100}" + b.replace("K", "x^2 - x*y + y^2")));
        Kit.dueFault(5, one(ahead + "@goto b; by {97; 100; 0; 96; 100}" + b.replace("K", "x^2 + x*y - y^2")));
        Kit.dueFault(5, one(ahead + "@goto b; by {97; 100; 0; 96; 100}" + b.replace("K", "x*y - y^2 + x^2")));
        taken(one(ahead + "goto b; by {97; 100; 81000000; 96; 100}" + b.replace("K", "y^2 + x^2 - x*y")));
        // the greater sum of powers first
        taken(one("x = 9; y = 90000000; goto b; by {97; 100; 90000729; 96; 100}" + b.replace("K", "y - y + y + x^3")));
        Kit.dueFault(5, one("x = 300; @goto b; by {98; 100; 0; 97; 100}" + b.replace("K", "2*x^3 + 600*x^2 - 540000*x")));
        taken(one("x = 300; goto b; by {98; 100; 0; 97; 100}" + b.replace("K", "2*x^3 - 600*x^2")));
        // of a call's polys
        String g = " method g(p,q) needs p*q + q^2 - p^2 >= 0 steps 1 cells 0 { a: fail; by {0; 0} }";
        taken(one("x = g(9000,9000); fail; by {98; 100; 81000000; 97; 100}") + g);
        Kit.dueFault(5, one("@x = g(9000,9000); fail; by {98; 100; 81000000; 97; 100}")
                + g.replace("p*q + q^2 - p^2", "p^2 + p*q - q^2"));
        // of what is given back: result is behind the params
        String gives = "method f(n) steps 9 cells 0 gives C >= 0 { var x; a: x = 9000; return x; by {7; 0; W} }";
        Kit.dueFault(4, gives.replace("C", "n^2 - result^2").replace("W", "@0"));
        taken(gives.replace("C", "result^2 - 9000*result").replace("W", "0"));
        Kit.dueFault(5, gives.replace("C", "result^2 + 9000*result").replace("return", "@return").replace("W", "0"));
    }

    /** "its number .. times the poly .. 5 there: TOO BIG on the way, the poly first, then terms". */
    private static void timesTheWitnessNumber() {
        String f = "method f() steps 34 cells C { a: fail; by {3: 99; W} }";
        taken(f.replace("C", "33333333").replace("W", "3: 99999999"));
        Kit.dueFault(5, f.replace("C", "33333334").replace("W", "@3: 99999999"));
        taken(f.replace("C", "1").replace("W", "99999999: 99999999"));
        Kit.dueFault(5, f.replace("C", "2").replace("W", "@99999999: 99999999"));
        taken(f.replace("C", "0").replace("W", "99999999: 0"));
        String low = "method f(n) needs -n >= 0 steps 34 cells -C*n { a: fail; by {3: 99; W} }";
        taken(low.replace("C", "33333333").replace("W", "3: 99999999*#0"));
        Kit.dueFault(5, low.replace("C", "33333334").replace("W", "@3: 0"));
    }

    /** The terms of a witness: products from the number on, one HYPOTHESIS after the other; sums from 0 on. */
    private static void termsOfAWitness() {
        String f = "method f(n,m) needs 9999 >= 0, n^3 >= 0, 0 >= 0, 0 - 9999 >= 0 steps 9 cells 0 { a: fail; by {8; W} }";
        String[] fit = {"99999999", "99999998+1", "10001*#0", "33333333+66666666", "#0*#0", "99999999+99999999*#2",
            "#1*#1*#1", "#2*#1*#1*#1", "0*#1*#1*#1*#1", "99999999*#2*#0*#0", "10001*#3", "10001*#0+10001*#3+10001*#0", "#0*#3"};
        String[] big = {"99999999+1", "10002*#0", "99999999*#0", "#0*#0*#0", "#0*#0*#0*#2", "#1*#1*#1*#1",
            "10001*#0+1+10001*#3", "10001*#3+10001*#3", "10002*#3", "99999999+99999999+10001*#3", "99999999*#0*#2", "10001*#0+10001*#0"};
        for (String terms : fit) {
            BoundHouse house = new BoundHouse();
            Kit.judge(house, f.replace("W", terms));
            Kit.due("the witness " + terms + " is TOO BIG", house.fault(0) == 5 ? 5 : 0, 0);
        }
        for (String terms : big) {
            Kit.dueFault(5, f.replace("W", "@" + terms));
        }
    }

    /** Ten or eleven rows of powers of n, each of them with another power of m and k. */
    private static List<String> rows(int... lengths) {
        List<String> monos = new ArrayList<>();
        for (int r = 0; r < lengths.length; r++) {
            for (int i = 0; i < lengths[r]; i++) {
                monos.add((i == 0 ? "1" : "n^" + i) + (r % 4 == 0 ? "" : "*m^" + r % 4) + (r / 4 == 0 ? "" : "*k^" + r / 4));
            }
        }
        return monos;
    }

    /** A cond of up to forty terms: twenty on the left, the others, below 0, on the right. */
    private static String cond(List<String> monos) {
        int half = Math.min(20, monos.size());
        String left = String.join(" + ", monos.subList(0, half));
        return left + " >= " + (monos.size() > half ? "-" + String.join(" - ", monos.subList(half, monos.size())) : "0");
    }

    /** "more than 60 terms", in sums and products of a witness. */
    private static void sixtyTermsOfAWitness() {
        String f = "method f(n,m,k) needs C steps 9 cells 0 { a: fail; by {8; @W} }";
        List<String> sixty = rows(6, 6, 6, 6, 6, 6, 6, 6, 6, 6);
        List<String> more = rows(6, 6, 6, 6, 6, 6, 6, 6, 6, 6, 1);
        String first = cond(sixty.subList(0, 40));
        Kit.dueFault(4, f.replace("C", first + ", " + cond(sixty.subList(40, 60))).replace("W", "#0+#1"));
        Kit.dueFault(5, f.replace("C", first + ", " + cond(more.subList(40, 61))).replace("W", "#0+#1"));
        Kit.dueFault(4, f.replace("C", first + ", " + cond(sixty.subList(40, 60))).replace("W", "#0+#1+99*#0"));
        // on the way, though it is less behind the third term
        String third = ", 0 >= " + String.join(" + ", more.subList(41, 61));
        Kit.dueFault(5, f.replace("C", first + ", " + cond(more.subList(40, 61)) + third).replace("W", "#0+#1+#2"));
        Kit.dueFault(4, f.replace("C", first + ", " + cond(more.subList(40, 61)) + third).replace("W", "#0+#2+#1"));
        // (1 + n + n^2) times ten rows of four is ten rows of six; times eleven rows, 39 in all, is 61
        String three = "1 + n + n^2 >= 0, ";
        Kit.dueFault(4, f.replace("C", three + cond(rows(4, 4, 4, 4, 4, 4, 4, 4, 4, 4))).replace("W", "#0*#1"));
        Kit.dueFault(4, f.replace("C", three + cond(rows(4, 4, 4, 4, 4, 4, 4, 4, 4, 4))).replace("W", "#1*#0"));
        Kit.dueFault(5, f.replace("C", three + cond(rows(4, 4, 4, 4, 4, 4, 3, 3, 3, 3, 3))).replace("W", "#0*#1"));
        Kit.dueFault(5, f.replace("C", three + cond(rows(4, 4, 4, 4, 4, 4, 3, 3, 3, 3, 3))).replace("W", "#1*#0"));
        Kit.dueFault(5, f.replace("C", three + cond(rows(4, 4, 4, 4, 4, 4, 3, 3, 3, 3, 3))).replace("W", "2*#1*#0+0"));
    }

    /** "the greater sum of powers first; of two with one sum that with the greater power of the first SYMBOL in which they differ". */
    private static void orderOfTerms() {
        String poly = "7 + c + b + a + c^2 + b*c + b^2 + a*c + a*b + a^2 + c^3 + b^3 + a*c^2 + a*b*c + a^2*c + a^3";
        BoundHouse house = Kit.taken("method f(a,b,c) needs " + poly + " >= 0 steps 8 + " + poly
                + " cells 0 { s: return a; by {7+#0; 0} }");
        String[] want = {"300", "201", "111", "102", "030", "003", "200", "110", "101", "020", "011", "002", "100", "010", "001",
            "000"};
        Kit.due("terms", house.shown(0, 3), want.length);
        for (int k = 0; k < want.length; k++) {
            Kit.due("coefficient " + k, house.term(0, k, -1), k == 15 ? 14 : 1);
            for (int s = 0; s < 3; s++) {
                Kit.due("term " + k + ", power of " + s, house.term(0, k, s), want[k].charAt(s) - '0');
            }
        }
    }
}
