import java.math.BigInteger;

/** Terms, chapter V: for each of its sentences that names an edge a test; the sign @ stands at the place that is due. */
public final class RunEdgeTest {
    private static final int NONE = -1;
    private static final int LOW = Integer.MIN_VALUE;
    private static final int HIGH = Integer.MAX_VALUE;
    private static final BigInteger LOWEST = BigInteger.valueOf(Long.MIN_VALUE);
    private static final BigInteger HIGHEST = BigInteger.valueOf(Long.MAX_VALUE);

    public static void main(String[] args) {
        needsAtZero();
        needsBeyondOnTheWay();
        needsInOrder();
        boundsBeyondOnTheWay();
        paramsThatItHasNot();
        localsAtFirst();
        twentyThousandSteps();
        lastStepOfEachKind();
        cutInACall();
        fiveThousandCells();
        fiveThousandArrays();
        newOfLessThanNothing();
        arraysAsTheyAreMade();
        thirtyCalls();
        sumsDifferencesAndProducts();
        quotientsAndRests();
        relations();
        indexes();
        arraysThatThereAreNot();
        readBehindTheLast();
        failures();
        Kit.end();
    }

    private static BoundHouse needing(String params, String needs) {
        return Kit.taken("method f(" + params + ") needs " + needs + " steps 1 cells 0 { a: return 1; by {0; 0} }");
    }

    private static void dueMeets(BoundHouse house, String what, boolean meets, int a, int b, int c) {
        String call = what + " with " + a + ", " + b + ", " + c;
        Kit.due(call, house.run(0, a, b, c), meets ? 0 : NONE);
        Kit.due(call + ", its bound", house.bound(0, 0, a, b, c), meets ? 1 : NONE);
    }

    /** "each need's value .. is 0 or more". */
    private static void needsAtZero() {
        dueMeets(needing("n", "n >= 0"), "n", true, 0, 0, 0);
        dueMeets(needing("n", "n >= 0"), "n", true, HIGH, 0, 0);
        dueMeets(needing("n", "n >= 0"), "n", false, -1, 0, 0);
        dueMeets(needing("n", "n >= 0"), "n", false, LOW, 0, 0);
        dueMeets(needing("n", "n <= 0"), "-n", true, LOW, 0, 0);
        dueMeets(needing("n", "n <= 0"), "-n", false, 1, 0, 0);
        dueMeets(needing("n", "n >= -5"), "n + 5", true, -5, 0, 0);
        dueMeets(needing("n", "n >= -5"), "n + 5", false, -6, 0, 0);
        dueMeets(needing("n", "0 >= 0"), "0", true, LOW, LOW, LOW);
        dueMeets(needing("n", "0 >= 1"), "-1", false, 0, 0, 0);
        dueMeets(needing("n", "n*n*n >= 8"), "n^3 - 8", true, 2, 0, 0);
        dueMeets(needing("n", "n*n*n >= 8"), "n^3 - 8", false, 1, 0, 0);
        // each of six, the last one, too
        String six = "n >= 1, m >= 2, k >= 3, n + m >= 4, m + k >= 6, n + m + k >= 10";
        dueMeets(needing("n,m,k", six), "six", true, 3, 3, 4);
        int[][] short1 = {{0, 7, 9}, {9, 1, 9}, {9, 9, 2}, {1, 2, 9}, {9, 2, 3}, {3, 3, 3}};
        for (int[] three : short1) {
            dueMeets(needing("n,m,k", six), "six", false, three[0], three[1], three[2]);
        }
    }

    /** ".. and never beyond 64 bits on the way". */
    private static void needsBeyondOnTheWay() {
        // 2 n, then 2 n n: 2^63 is beyond, -2^63 is not
        dueMeets(needing("n", "2*n^2 >= 0"), "2*n^2", true, HIGH, 0, 0);
        dueMeets(needing("n", "2*n^2 >= 0"), "2*n^2", true, -HIGH, 0, 0);
        dueMeets(needing("n", "2*n^2 >= 0"), "2*n^2", false, LOW, 0, 0);
        dueMeets(needing("n,m", "n*m + m^2 - 2*n^2 >= 0"), "-2^63 + 2^62 + 2^62", true, LOW, LOW, 0);
        dueMeets(needing("n,m", "2*n^2 - n*m - m^2 >= 0"), "2^63 - 2^62 - 2^62", false, LOW, LOW, 0);
        // sums: 2^62 + 2^62, though the third takes them back
        dueMeets(needing("n,m", "n^2 + n*m - m^2 >= 0"), "2^62 + 2^62 - 2^62", false, LOW, LOW, 0);
        dueMeets(needing("n,m", "n^2 - n*m + m^2 >= 0"), "2^62 - 2^62 + 2^62", true, LOW, LOW, 0);
        dueMeets(needing("n,m", "m^2 - n*m - n^2 - n^2 >= 0"), "-2^63 - 2^62 ..", false, LOW, LOW, 0);
        // 2^62 + (2^62 - 1) is 2^63 - 1 at most
        dueMeets(needing("n", "n^2 - 2*n - 1 >= 0"), "2^62 + 2^32 - 1", true, LOW, 0, 0);
        dueMeets(needing("n", "2*n^2 + 4*n + 1 >= 0"), "2 (2^31)^2 - 1", true, HIGH, 0, 0);
        dueMeets(needing("n", "2*n^2 + 4*n + 2 >= 0"), "2 (2^31)^2", false, HIGH, 0, 0);
        dueMeets(needing("n", "2*n^2 + 4*n + 2 >= 0"), "2 (2^31 - 1)^2", true, HIGH - 1, 0, 0);
        // powers: 1448^6 is below 2^63, 1449^6 is not; 55108^4, 55109^4
        dueMeets(needing("n", "n^6 >= 0"), "n^6", true, 1448, 0, 0);
        dueMeets(needing("n", "n^6 >= 0"), "n^6", false, 1449, 0, 0);
        dueMeets(needing("n", "n^6 >= 0"), "n^6", true, -1448, 0, 0);
        dueMeets(needing("n", "n^6 >= 0"), "n^6", false, -1449, 0, 0);
        dueMeets(needing("n", "n^4 >= 0"), "n^4", true, 55108, 0, 0);
        dueMeets(needing("n", "n^4 >= 0"), "n^4", false, 55109, 0, 0);
        dueMeets(needing("n", "n^3 >= 0"), "n^3", true, 2097151, 0, 0);
        dueMeets(needing("n", "n^3 >= 0"), "n^3", false, 2097152, 0, 0);
        dueMeets(needing("n", "n^3 <= 0"), "-n^3", false, 2097152, 0, 0);
        dueMeets(needing("n", "n^3 <= 0"), "-n^3", false, -2097152, 0, 0);
        dueMeets(needing("n", "n^3 <= 0"), "-n^3", true, -2097151, 0, 0);
        // by chance the product's lowest 64 bits are 0 or more: 2^64, 2^66
        dueMeets(needing("n", "n^4 >= 0"), "2^64", false, 65536, 0, 0);
        dueMeets(needing("n", "n^6 >= 0"), "2^66", false, 2048, 0, 0);
        dueMeets(needing("n", "n^6 >= 0"), "2^186", false, LOW, 0, 0);
        dueMeets(needing("n", "99999999*n^2 >= 0"), "99999999*n^2", true, 303700, 0, 0);
        dueMeets(needing("n", "99999999*n^2 >= 0"), "99999999*n^2", false, 303701, 0, 0);
    }

    /** "its coefficient times the params' values, one factor at a time, SYMBOL by SYMBOL". */
    private static void needsInOrder() {
        // with 0 for the second one the first one's power goes beyond; the other way round all is 0
        dueMeets(needing("n,m", "n^6*m >= 0"), "n^6*m", false, HIGH, 0, 0);
        dueMeets(needing("m,n", "n^6*m >= 0"), "n^6*m", true, 0, HIGH, 0);
        dueMeets(needing("n,m", "n^6*m - m >= 0"), "n^6*m - m", true, 1, HIGH, 0);
        dueMeets(needing("n,m,k", "n*m*k >= 0"), "n*m*k", false, HIGH, HIGH, 3);
        dueMeets(needing("n,m,k", "n*m*k >= 0"), "n*m*k", true, HIGH, HIGH, 2);
        dueMeets(needing("n,m,k", "n^2*m^2*k >= 0"), "n^2*m^2*k", false, 65536, 65536, 0);
        dueMeets(needing("n,m,k", "n^2*m^2*k >= 0"), "n^2*m^2*k", true, 65536, 0, 65536);
        // the coefficient first: 99999999 n^2 is beyond, n^2 m is not
        dueMeets(needing("n,m", "99999999*n^2*m >= 0"), "99999999*n^2*m", false, 303701, 0, 0);
        dueMeets(needing("n,m", "n^2*m >= 0"), "n^2*m", true, 303701, 99999999 / 4, 0);
        // the greater sum of powers is added first: n^3 + m^3 is beyond ahead of - 5 n^2; n^2*.. of the same sum in turn
        dueMeets(needing("n,m", "n^3 + m^3 - 99999999*n^2 >= 0"), "n^3 + m^3 - ..", false, 2097151, 2097151, 0);
        dueMeets(needing("n,m", "n^3 - n*m^2 + m^3 >= 0"), "n^3 - n*m^2 + m^3", true, 2097151, 2097151, 0);
        dueMeets(needing("n,m", "n^3 + n*m^2 - m^3 >= 0"), "n^3 + n*m^2 - m^3", false, 2097151, 2097151, 0);
        // what goes in the text is not worked
        dueMeets(needing("n", "n^6 - n^6 + n >= 0"), "n", true, HIGH, 0, 0);
        dueMeets(needing("n", "n^6 >= n^6 - n"), "n", true, HIGH, 0, 0);
    }

    /** bound(): "worked as needs are .. or it is beyond 64 bits on the way". */
    private static void boundsBeyondOnTheWay() {
        BoundHouse house = Kit.taken("method f(n) needs n >= 0 steps 2*n^2 + 4*n + 1 cells 2*n^2 + 4*n + 2 { a: fail;"
                + " by {2*#0*#0+4*#0; 2*#0*#0+4*#0+2} }");
        Kit.due("2^63 - 1 steps", house.bound(0, 0, HIGH, 0, 0), Long.MAX_VALUE);
        Kit.due("2^63 cells", house.bound(0, 1, HIGH, 0, 0), NONE);
        Kit.due("2^63 - 2^33 .. cells", house.bound(0, 1, HIGH - 1, 0, 0), 2L * HIGH * HIGH);
        Kit.due("not met", house.bound(0, 0, -1, 0, 0), NONE);
        house = Kit.taken("method f(n,m) needs n >= 0, m >= 0, n^6 >= 0 steps n^6*m + 1 cells m + 7 { a: fail; by {#1*#2; 7+#1} }");
        Kit.due("n^6*m + 1, its need is beyond", house.bound(0, 0, 1449, 0, 0), NONE);
        Kit.due("n^6*m + 1, of 0", house.bound(0, 0, 1448, 0, 0), 1);
        Kit.due("n^6*m + 1, of 1", house.bound(0, 0, 1448, 1, 0), 1448L * 1448 * 1448 * 1448 * 1448 * 1448 + 1);
        Kit.due("n^6*m + 1, of 2", house.bound(0, 0, 1448, 2, 0), NONE);
        Kit.due("n^6*m + 1, of 2, cells", house.bound(0, 1, 1448, 2, 0), 9);
        Kit.due("n^6*m + 1, of 2, run", house.run(0, 1448, 2, 0), 1);
    }

    /** "of three those that it has not are not looked at". */
    private static void paramsThatItHasNot() {
        for (int odd : new int[] {LOW, -1, 0, 1, HIGH}) {
            BoundHouse none = Kit.taken("method f() steps 2 cells 0 { var x; a: x = x + 1; return x; by {0; 0} }");
            Kit.due("no params", none.run(0, odd, odd, odd), 0);
            Kit.due("no params, locals are 0", none.result(), 1);
            BoundHouse one = Kit.taken("method f(n) needs n >= 0 steps 3 cells 0 { var x,y; a: x = n + x; x = x + y; return x;"
                    + " by {0+0*#0; 0} }");
            Kit.due("one param", one.run(0, 5, odd, odd), 0);
            Kit.due("one param, locals are 0", one.result(), 5);
            Kit.due("one param, its bound", one.bound(0, 0, 5, odd, odd), 3);
        }
        BoundHouse three = Kit.taken("method f(n,m,k) steps 3 cells 0 { var x; a: x = n - m; x = x - k; return x; by {0; 0} }");
        three.run(0, 100, 20, 3);
        Kit.due("three params", three.result(), 77);
        three.run(0, LOW, HIGH, HIGH);
        Kit.due("three params at the ends", three.result(), -2147483648L - 2L * HIGH);
    }

    /** "Locals are 0 at first": of each call. */
    private static void localsAtFirst() {
        BoundHouse house = Kit.taken("method f() steps 9 cells 0 { var x,y; a: x = g(5); x = g(7); return x; by {6; 0; 3; 0; 0; 0} }"
                + " method g(n) steps 3 cells 0 { var y; a: y = y + n; y = y + 0; return y; by {0; 0} }");
        house.run(0, 0, 0, 0);
        Kit.due("a call's locals are 0 at first", house.result(), 7);
        house.run(0, 0, 0, 0);
        Kit.due("a run's locals are 0 at first", house.result(), 7);
    }

    /** A loop of 3 n + 2 steps, and then what is told; S and C are what is left for it. */
    private static String loop(String behind, int left, String witnesses) {
        return "method f(n) needs n >= 0 steps 3*n + " + (left + 2) + " cells 9 { var i,x; a: goto h; by {" + (left + 1)
                + "+3*#0; 9; #0; 0; 0} h keeps n - i >= 0 left 3*n - 3*i + " + (left + 1) + ", 9: if i < n goto b else o; by {"
                + left + "+3*#1; 9; #2; 0; 0; 3*#1; 0} b keeps n - i - 1 >= 0 left 3*n - 3*i + " + left
                + ", 9: i = i + 1; goto h; by {" + (left + 1) + "+3*#1; 9; #1; 0; 0} o left " + left + ", 9: " + behind
                + " by {" + witnesses + "} } method g() steps 2 cells 0 { var x; a: x = 5; return x; by {0; 0} }";
    }

    private static void dueAbout(BoundHouse house, String what, int... want) {
        for (int k = 0; k < want.length; k++) {
            Kit.due(what + ", about(" + k + ")", house.about(k), want[k]);
        }
    }

    /** "When the next STEP would be the 20,001st of the run it is CUT." */
    private static void twentyThousandSteps() {
        // 3 * 6665 + 2 + 3 are 20,000
        BoundHouse house = Kit.taken(loop("x = 1; x = 2; return n;", 3, "0; 9"));
        Kit.due("19,997 steps", house.run(0, 6664, 0, 0), 0);
        dueAbout(house, "19,997 steps", 0, 19_997, 0, 1, 1, NONE, NONE, 0, 0);
        Kit.due("20,000 steps", house.run(0, 6665, 0, 0), 0);
        dueAbout(house, "20,000 steps", 0, 20_000, 0, 1, 1, NONE, NONE, 0, 0);
        Kit.due("20,000 steps, result", house.result(), 6665);
        Kit.due("20,003 steps", house.run(0, 6666, 0, 0), 2);
        dueAbout(house, "20,003 steps", 2, 20_000, 0, 1, 1, NONE, NONE, 0, 0);
        Kit.due("20,003 steps, result", house.result(), 0);
        Kit.due("20,003 steps, overs", house.overs(), 0);
        house = Kit.taken(loop("x = 1; x = 2; x = 3; return n;", 4, "0; 9"));
        Kit.due("20,001 steps", house.run(0, 6665, 0, 0), 2);
        dueAbout(house, "20,001 steps", 2, 20_000, 0, 1, 1, NONE, NONE, 0, 0);
        Kit.due("20,001 steps, result", house.result(), 0);
        Kit.due("very many steps", house.run(0, HIGH, 0, 0), 2);
        dueAbout(house, "very many steps", 2, 20_000, 0, 1, 1, NONE, NONE, 0, 0);
        Kit.due("behind one that was cut", house.run(0, 0, 0, 0), 0);
        dueAbout(house, "behind one that was cut", 0, 6, 0, 1, 1, NONE, NONE, 0, 0);
    }

    /** The 20,000th STEP is done whatever it is, the 20,001st is not. */
    private static void lastStepOfEachKind() {
        dueLast("fail;", "0; 9", "0; 9", 1);
        dueLast("x = new -1; fail;", "0; 9; 9", "0; 9; 9", 5);
        dueLast("x = len n; fail;", "0; 9", "0; 9", 3);
        dueLast("n[0] = 1; fail;", "0; 9", "0; 9", 3);
        // new, read and a call that are the 20,000th STEP
        BoundHouse house = Kit.taken(loop("x = 1; x = 2; x = new 3; fail;", 4, "0; 9; 5"));
        Kit.due("new is the last", house.run(0, 6665, 0, 0), 2);
        dueAbout(house, "new is the last", 2, 20_000, 4, 1, 1, NONE, NONE, 1, 0);
        house = Kit.taken(loop("x = 1; x = 2; x = 3; x = new 3; fail;", 5, "0; 9; 5"));
        Kit.due("new is one too many", house.run(0, 6665, 0, 0), 2);
        dueAbout(house, "new is one too many", 2, 20_000, 0, 1, 1, NONE, NONE, 0, 0);
        house = Kit.taken(loop("x = 1; x = read; x = read; x = read; fail;", 5, "0; 9"));
        Kit.due("read is the last", house.run(0, 6665, 0, 0), 2);
        dueAbout(house, "read is the last", 2, 20_000, 0, 1, 1, NONE, NONE, 0, 2);
        house = Kit.taken(loop("x = 1; x = 2; x = g(); fail;", 6, "2; 9; 0; 9"));
        Kit.due("a call is the last", house.run(0, 6665, 0, 0), 2);
        dueAbout(house, "a call is the last", 2, 20_000, 0, 2, 2, NONE, NONE, 0, 0);
        house = Kit.taken(loop("x = 1; x = 2; x = 3; x = g(); fail;", 7, "2; 9; 0; 9"));
        Kit.due("a call is one too many", house.run(0, 6665, 0, 0), 2);
        dueAbout(house, "a call is one too many", 2, 20_000, 0, 1, 1, NONE, NONE, 0, 0);
    }

    /** The statement (or jump) fails as the 20,000th STEP; with one more ahead of it the run is cut. */
    private static void dueLast(String last, String witnesses, String more, int why) {
        int many = last.split(";").length;
        String text = loop("x = 1; x = 2; " + last, 2 + many, witnesses);
        BoundHouse house = Kit.taken(text);
        Kit.due(last + " is the last", house.run(0, 6665, 0, 0), 1);
        dueAbout(house, last + " is the last", 1, 20_000, 0, 1, 1, text.indexOf(last), why, 0, 0);
        house = Kit.taken(loop("x = 1; x = 2; x = 3; " + last, 3 + many, more));
        Kit.due(last + " is one too many", house.run(0, 6665, 0, 0), 2);
        dueAbout(house, last + " is one too many", 2, 20_000, 0, 1, 1, NONE, NONE, 0, 0);
    }

    /** It is cut in calls that are open; what they had brought back until then is not what it returned. */
    private static void cutInACall() {
        String text = "method f(n) needs n >= 0 steps 3*n + 20 cells 0 { var x; a: x = g(0); x = g(n); return x;"
                + " by {17+3*#0; 0; 0; 12+3*#0; 0; #0; 7; 0} }"
                + " method g(n) needs n >= 0 steps 3*n + 5 cells 0 { var i; a: goto h; by {4+3*#0; 0; #0; 1; 0}"
                + " h keeps n - i >= 0 left 3*n - 3*i + 3, 0: if i < n goto b else o; by {2+3*#1; 0; #2; 0; 0; 3*#1; 0}"
                + " b keeps n - i - 1 >= 0 left 3*n - 3*i + 2, 0: i = i + 1; goto h; by {3*#1+3; 0; #1; 0; 0}"
                + " o left 2, 0: return 7; by {1; 0} }";
        BoundHouse house = Kit.taken(text);
        // 2 calls, 3 of g(0), 3 n + 3 of g(n), and return
        Kit.due("19,998 steps", house.run(0, 6663, 0, 0), 0);
        dueAbout(house, "19,998 steps", 0, 19_998, 0, 3, 2, NONE, NONE, 0, 0);
        Kit.due("cut at return, in no call", house.run(0, 6664, 0, 0), 2);
        dueAbout(house, "cut at return", 2, 20_000, 0, 3, 2, NONE, NONE, 0, 0);
        Kit.due("cut at return, result", house.result(), 0);
        Kit.due("cut in a call", house.run(0, 8000, 0, 0), 2);
        dueAbout(house, "cut in a call", 2, 20_000, 0, 3, 2, NONE, NONE, 0, 0);
        Kit.due("cut in a call, result", house.result(), 0);
        Kit.due("cut in a call, overs", house.overs(), 0);
    }

    /** "CELLS: new n: n + 1", and at most 5,000 of them. */
    private static void fiveThousandCells() {
        String one = "method f(n) needs n >= 0 steps 2 cells n + 1 { var x; a: x = new n; return x; by {0; 1+#0; 0} }";
        int[] sizes = {0, 1, 4998, 4999};
        for (int n : sizes) {
            BoundHouse house = Kit.taken(one);
            Kit.due("new " + n, house.run(0, n, 0, 0), 0);
            dueAbout(house, "new " + n, 0, 2, n + 1, 1, 1, NONE, NONE, 1, 0);
        }
        for (int n : new int[] {5000, 5001, 65536, HIGH}) {
            BoundHouse house = Kit.taken(one);
            Kit.due("new " + n, house.run(0, n, 0, 0), 1);
            dueAbout(house, "new " + n, 1, 1, 0, 1, 1, one.indexOf("x = new"), 5, 0, 0);
        }
        String two = "method f(n,m) needs n >= 0, m >= 0 steps 4 cells n + m + 3 { var x; a: x = new n; x = new m; x = new 0; return x;"
                + " by {0; 3+#0+#1; 2+#1; 1; 0} }";
        BoundHouse house = Kit.taken(two);
        Kit.due("2,500, 2,499 and 1 cells", house.run(0, 2499, 2498, 0), 0);
        dueAbout(house, "2,500, 2,499 and 1 cells", 0, 4, 5_000, 1, 1, NONE, NONE, 3, 0);
        Kit.due("2,500, 2,500 and 1 cells", house.run(0, 2499, 2499, 0), 1);
        dueAbout(house, "2,500, 2,500 and 1 cells", 1, 3, 5_000, 1, 1, two.indexOf("x = new 0"), 5, 2, 0);
        Kit.due("2,500, 2,501 cells", house.run(0, 2499, 2500, 0), 1);
        dueAbout(house, "2,500, 2,501 cells", 1, 2, 2_500, 1, 1, two.indexOf("x = new m"), 5, 1, 0);
        Kit.due("again", house.run(0, 2499, 2498, 0), 0);
        dueAbout(house, "again", 0, 4, 5_000, 1, 1, NONE, NONE, 3, 0);
    }

    /** As many arrays as there can be: 5,000 of no cells; and the next one. */
    private static void fiveThousandArrays() {
        StringBuilder cells = new StringBuilder();
        for (int k = 8; k >= 0; k--) {
            cells.append(k).append("+9*#1; ");
        }
        String text = "method f(n) needs n >= 0 steps 12*n + 7 cells 9*n + 9 { var i,x; a: goto h; by {6+12*#0; 9+9*#0; #0; 3; 9}"
                + " h keeps n - i >= 0 left 12*n - 12*i + 3, 9*n - 9*i: if i < n goto b else o;"
                + " by {2+12*#1; 9*#1; #2; 0; 0; 1+12*#1; 9*#1}"
                + " b keeps n - i - 1 >= 0 left 12*n - 12*i + 2, 9*n - 9*i: " + "x = new 0; ".repeat(9) + "i = i + 1; goto h;"
                + " by {3+12*#1; 9+9*#1; " + cells + "#1; 0; 0} o left 1, 0: return x; by {0; 0} }";
        BoundHouse house = Kit.taken(text);
        Kit.due("4,995 arrays", house.run(0, 555, 0, 0), 0);
        dueAbout(house, "4,995 arrays", 0, 555 * 12 + 3, 4995, 1, 1, NONE, NONE, 4995, 0);
        Kit.due("4,995 arrays, the last one", house.result(), 4995);
        Kit.due("5,001 arrays", house.run(0, 556, 0, 0), 1);
        int sixth = text.indexOf("x = new 0") + 5 * "x = new 0; ".length();
        dueAbout(house, "5,001 arrays", 1, 1 + 555 * 12 + 1 + 6, 5000, 1, 1, sixth, 5, 5000, 0);
        Kit.due("its cells", house.cell(5000, 0), 0);
    }

    /** "5 new of less than 0", of any long. */
    private static void newOfLessThanNothing() {
        String product = "method f(n,m) needs n*m + 9 >= 0 steps 9 cells n*m + 9 { var x; a: x = n * m; x = new x; return x; by {6; #0; 8} }";
        BoundHouse house = Kit.taken(product);
        for (int below = 1; below <= 9; below++) {
            Kit.due("new -" + below, house.run(0, -below, 1, 0), 1);
            dueAbout(house, "new -" + below, 1, 2, 0, 1, 1, product.indexOf("x = new"), 5, 0, 0);
        }
        Kit.due("new 0", house.run(0, 0, 1, 0), 0);
        String longs = "method f(n,m) needs 2*n*m + 9 >= 0 steps 9 cells 2*n*m + 9 { var x; a: x = n * m; x = x * 2; x = new x; return x;"
                + " by {5; #0; 8} }";
        house = Kit.taken(longs);
        Kit.due("new of a long", house.run(0, HIGH, HIGH, 0), 1);
        dueAbout(house, "new of a long", 1, 3, 0, 1, 1, longs.indexOf("x = new"), 5, 0, 0);
        // 2^32 and 2^32 + 2, which are 0 and 2 by their lowest 32 bits
        Kit.due("new 2^32", house.run(0, 65536, 32768, 0), 1);
        dueAbout(house, "new 2^32", 1, 3, 0, 1, 1, longs.indexOf("x = new"), 5, 0, 0);
        Kit.due("new 2^32 + 2", house.run(0, 715827883, 3, 0), 1);
        dueAbout(house, "new 2^32 + 2", 1, 3, 0, 1, 1, longs.indexOf("x = new"), 5, 0, 0);
    }

    /** "ARRAYS have numbers 1, 2, .. as they are made, n cells of 0." */
    private static void arraysAsTheyAreMade() {
        BoundHouse house = Kit.taken("method f(n) needs n >= 0 steps 9 cells n + 9 { var x,y,z; a: x = new n; y = new 0; z = new 2;"
                + " z[0] = x; z[1] = y; x = z * 100; return x; by {2; 9+#0; 8; 7; 4} }");
        Kit.due("three arrays", house.run(0, 3, 0, 0), 0);
        Kit.due("the third", house.result(), 300);
        long[][] cells = {{0, 0, 0, 0}, {0, 0}, {1, 2, 0}};
        for (int k = 1; k <= 3; k++) {
            for (int i = 0; i < cells[k - 1].length; i++) {
                Kit.due("cell(" + k + ", " + i + ")", house.cell(k, i), cells[k - 1][i]);
            }
        }
        // cells are 0 anew, and numbers begin anew
        String text = "method f(n) needs n >= 0 steps 9 cells 9 { var x,y; a: x = new 3; y = x[0]; y = y + n; x[0] = y; y = x[0];"
                + " return y; by {3; 9; 5} }";
        house = Kit.taken(text);
        for (int n = 1; n < 4; n++) {
            house.run(0, n, 0, 0);
            Kit.due("cells of 0 at first", house.result(), n);
            Kit.due("one array", house.about(7), 1);
        }
    }

    /** "6 a 31st call that is open (the run's method too)". */
    private static void thirtyCalls() {
        String text = Texts.RECURSION;
        BoundHouse house = Kit.taken(text);
        for (int n : new int[] {0, 1, 28, 29}) {
            Kit.due(n + 1 + " open calls", house.run(0, n, 0, 0), 0);
            dueAbout(house, n + 1 + " open calls", 0, 5 * n + 2, 0, n + 1, n + 1, NONE, NONE, 0, 0);
            Kit.due(n + 1 + " open calls, result", house.result(), (long) n * (n + 1) / 2);
        }
        for (int n : new int[] {30, 31, 1000, HIGH}) {
            Kit.due("31 open calls of " + n, house.run(0, n, 0, 0), 1);
            dueAbout(house, "31 open calls of " + n, 1, 90, 0, 30, 30, text.indexOf("q = r(m)"), 6, 0, 0);
            Kit.due("31 open calls, result", house.result(), 0);
            Kit.due("31 open calls, overs", house.overs(), 0);
        }
        // a call that ended is not open: many behind one another
        String many = "method f(n) needs n >= 0 steps 9*n + 6 cells 0 { var i,x; a: goto h; by {5+9*#0; 0; #0; 1; 0}"
                + " h keeps n - i >= 0 left 9*n - 9*i + 4, 0: if i < n goto b else o; by {3+9*#1; 0; #2; 0; 0; 2+9*#1; 0}"
                + " b keeps n - i - 1 >= 0 left 9*n - 9*i + 3, 0: x = g(i); i = i + 1; goto h; by {9+9*#1; 0; 6+9*#1; 0; #1; 2; 0}"
                + " o left 1, 0: return x; by {0; 0} } method g(k) steps 3 cells 0 { var x; a: x = h(k); return x; by {1; 0; 0; 0} }"
                + " method h(k) steps 1 cells 0 { a: return k; by {0; 0} }";
        house = Kit.taken(many);
        Kit.due("200 calls in turn", house.run(0, 100, 0, 0), 0);
        dueAbout(house, "200 calls in turn", 0, 100 * 7 + 3, 0, 201, 3, NONE, NONE, 0, 0);
        Kit.due("200 calls in turn, result", house.result(), 99);
    }

    private static BigInteger big(long v) {
        return BigInteger.valueOf(v);
    }

    private static final long[] LONGS = {0, 1, -1, 2, -2, 3, -3, 7, LOW, HIGH, LOW - 1L, HIGH + 1L, 3037000499L, 3037000500L, -3037000499L,
        -3037000500L, 1L << 32, -(1L << 32), 1L << 62, -(1L << 62), (1L << 62) - 1, Long.MAX_VALUE / 2, Long.MAX_VALUE - 1,
        Long.MAX_VALUE, Long.MIN_VALUE, Long.MIN_VALUE + 1, Long.MIN_VALUE / 2 - 1, Long.MIN_VALUE / 3, Long.MAX_VALUE / 3,
        Long.MAX_VALUE / 3 + 1};

    /** "2 a sum, difference or product beyond 64 bits", at the ends of them. */
    private static void sumsDifferencesAndProducts() {
        String text = "method f() steps 4 cells 0 { var x,y,z; a: x = read; y = read; z = x O y; return z; by {0; 0} }";
        for (String sign : new String[] {"+", "-", "*"}) {
            String whole = text.replace("O", sign);
            for (long x : LONGS) {
                for (long y : LONGS) {
                    BigInteger want = sign.equals("+") ? big(x).add(big(y)) : sign.equals("-") ? big(x).subtract(big(y))
                            : big(x).multiply(big(y));
                    boolean fits = want.compareTo(LOWEST) >= 0 && want.compareTo(HIGHEST) <= 0;
                    dueRead(whole, fits ? want.longValueExact() : 0, fits ? 0 : 2, whole.indexOf("z = "), x, y);
                }
            }
        }
    }

    /** Runs the text with what is given; if it fails, it does so at the place, and why. */
    private static void dueRead(String text, long want, int why, int place, long... given) {
        BoundHouse house = new BoundHouse();
        Kit.judge(house, text);
        StringBuilder call = new StringBuilder(text);
        for (long v : given) {
            house.give(v);
            call.append(", given ").append(v);
        }
        Kit.due(call + ", run", house.run(0, 0, 0, 0), why == 0 ? 0 : 1);
        Kit.due(call + ", result", house.result(), want);
        Kit.due(call + ", about(5)", house.about(5), why == 0 ? NONE : place);
        Kit.due(call + ", about(6)", house.about(6), why == 0 ? NONE : why);
    }

    /** "/ is cut downwards, % is what is left of it (0 .. n - 1)". */
    private static void quotientsAndRests() {
        for (int n : new int[] {1, 2, 3, 7, 10, 65536, 99_999_998, 99_999_999}) {
            for (long x : LONGS) {
                BigInteger[] both = big(x).divideAndRemainder(big(n));
                boolean below = both[1].signum() < 0;
                long quotient = both[0].longValueExact() - (below ? 1 : 0);
                long rest = both[1].longValueExact() + (below ? n : 0);
                String text = "method f() steps 3 cells 0 { var x; a: x = read; x = x O " + n + "; return x; by {0; 0} }";
                dueRead(text.replace("O", "/"), quotient, 0, 0, x);
                dueRead(text.replace("O", "%"), rest, 0, 0, x);
            }
        }
    }

    /** Each relation, of what is less, the same, and more, at the ends of 64 bits, too. */
    private static void relations() {
        String text = "method f() steps 4 cells 0 { var x,y; a: x = read; y = read; if x O y goto b else c; by {1; 0; 0; 0; 0; 0}"
                + " b left 1, 0: return 1; by {0; 0} c left 1, 0: return 2; by {0; 0} }";
        long[] values = {0, 1, -1, Long.MIN_VALUE, Long.MAX_VALUE, 1L << 32};
        for (long x : values) {
            for (long y : values) {
                dueRead(text.replace("O", "<"), x < y ? 1 : 2, 0, 0, x, y);
                dueRead(text.replace("O", "<="), x <= y ? 1 : 2, 0, 0, x, y);
                dueRead(text.replace("O", ">"), x > y ? 1 : 2, 0, 0, x, y);
                dueRead(text.replace("O", ">="), x >= y ? 1 : 2, 0, 0, x, y);
                dueRead(text.replace("O", "=="), x == y ? 1 : 2, 0, 0, x, y);
                dueRead(text.replace("O", "!="), x != y ? 1 : 2, 0, 0, x, y);
            }
        }
    }

    /** "4 an index that it has not". */
    private static void indexes() {
        String load = "method f() steps 9 cells 9 { var x,y,i; a: x = new 3; x[1] = 8; i = read; y = x[i]; return y; by {4; 9; 5} }";
        String store = "method f() steps 9 cells 9 { var x,y,i; a: x = new 3; y = new 3; i = read; x[i] = 5; y = x[2]; return y;"
                + " by {3; 9; 5; 1} }";
        long[] wrong = {-1, -2, 3, 4, LOW, HIGH, 1L << 32, (1L << 32) + 1, -(1L << 32), -(1L << 32) + 1, Long.MIN_VALUE, Long.MIN_VALUE + 1,
            Long.MAX_VALUE};
        for (long i : wrong) {
            dueRead(load, 0, 4, load.indexOf("y = x[i]"), i);
            dueRead(store, 0, 4, store.indexOf("x[i]"), i);
        }
        dueRead(load, 0, 0, 0, 0);
        dueRead(load, 8, 0, 0, 1);
        dueRead(load, 0, 0, 0, 2);
        dueRead(store, 0, 0, 0, 0);
        dueRead(store, 0, 0, 0, 1);
        dueRead(store, 5, 0, 0, 2);
        // of three arrays in a row each has its own cells, and no others
        String row = "method f(n) needs n >= 0 steps 9 cells 20 { var x,y,z; a: x = new 2; y = new 3; z = new 4; y[n] = 7; z[3] = 9;"
                + " x[1] = 5; z = y[n]; return z; by {1; 20; 17; 13; 8} }";
        for (int n = 0; n < 8; n++) {
            BoundHouse house = Kit.taken(row);
            Kit.due("index " + n + " of 3", house.run(0, n, 0, 0), n < 3 ? 0 : 1);
            Kit.due("index " + n + " of 3, why", house.about(6), n < 3 ? NONE : 4);
            Kit.due("index " + n + " of 3, result", house.result(), n < 3 ? 7 : 0);
            Kit.due("index " + n + " of 3, the cell ahead", house.cell(1, 1), n < 3 ? 5 : 0);
            Kit.due("index " + n + " of 3, the cell behind", house.cell(3, n % 3), 0);
        }
        // an array of no cells has no index
        String none = load.replace("new 3", "new 0").replace("x[1] = 8", "y = 0").replace("9; 5}", "9; 8}");
        dueRead(none, 0, 4, none.indexOf("y = x[i]"), 0);
    }

    /** "3 an array that there is not (x[a], x[a] = b, len)", ahead of its index. */
    private static void arraysThatThereAreNot() {
        String head = "method f() steps 9 cells 9 { var x,y,z; a: x = new 3; y = new 2; z = read; ";
        String load = head + "x = z[0]; return x; by {4; 9; 5; 2} }";
        String store = head + "z[0] = 1; return z; by {4; 9; 5; 2} }";
        String len = head + "x = len z; return x; by {4; 9; 5; 2} }";
        String badIndex = head + "x = z[-1]; return x; by {4; 9; 5; 2} }";
        long[] wrong = {0, -1, 3, 4, LOW, HIGH, 1L << 32, (1L << 32) + 1, -(1L << 32) + 1, Long.MIN_VALUE, Long.MIN_VALUE + 1, Long.MAX_VALUE};
        for (long z : wrong) {
            dueRead(load, 0, 3, head.length(), z);
            dueRead(store, 0, 3, head.length(), z);
            dueRead(len, 0, 3, head.length(), z);
            dueRead(badIndex, 0, 3, head.length(), z);
        }
        dueRead(load, 0, 0, 0, 1);
        dueRead(store, 2, 0, 0, 2);
        dueRead(len, 3, 0, 0, 1);
        dueRead(len, 2, 0, 0, 2);
        dueRead(badIndex, 0, 4, head.length(), 2);
        // those of the run ahead of this one are not there
        String later = "method f(n) needs n >= 0 steps 9 cells 9 { var x; a: if n > 0 goto b else c; by {8; 9; 5; 0; 5; 0}"
                + " b left 3, 9: x = new 3; x = len 1; return x; by {0; 9; 5} c left 3, 9: x = len 1; return x; by {1; 9} }";
        BoundHouse house = Kit.taken(later);
        Kit.due("an array", house.run(0, 1, 0, 0), 0);
        Kit.due("an array that was", house.run(0, 0, 0, 0), 1);
        Kit.due("an array that was, why", house.about(6), 3);
        Kit.due("an array that was, cell", house.cell(1, 0), 0);
    }

    /** "read takes what is GIVEN, from the first on (0 behind the last)". */
    private static void readBehindTheLast() {
        String text = "method f() steps 9 cells 0 { var x,y,z; a: x = read; y = read; z = read; x = x * 100; y = y * 10; z = z + y;"
                + " z = z + x; return z; by {1; 0} }";
        dueRead(text, 0, 0, 0);
        dueRead(text, 100, 0, 0, 1);
        dueRead(text, 120, 0, 0, 1, 2);
        dueRead(text, 123, 0, 0, 1, 2, 3);
        dueRead(text, 123, 0, 0, 1, 2, 3, 4);
        BoundHouse house = Kit.taken(Texts.FILL);
        for (int v = 1; v <= 200; v++) {
            house.give(v);
        }
        int[] reads = {0, 1, 199, 200, 201, 300};
        for (int n : reads) {
            house.run(0, n, 0, 0);
            long last = Math.min(n, 200);
            Kit.due(n + " reads, their sum", house.result(), last * (last + 1) / 2);
            Kit.due(n + " reads", house.about(8), n);
            Kit.due(n + " reads, the last", house.cell(1, n - 1), n > 200 ? 0 : n);
        }
        // those of calls, too, in turn
        house = Kit.taken("method f() steps 10 cells 0 { var x,y; a: x = g(); y = g(); y = y * 10; y = y + x; return y;"
                + " by {5; 0; 3; 0; 1; 0} } method g() steps 2 cells 0 { var x; a: x = read; return x; by {0; 0} }");
        house.give(3);
        house.give(4);
        house.run(0, 0, 0, 0);
        Kit.due("reads of calls", house.result(), 43);
        Kit.due("reads of calls, how many", house.about(8), 2);
    }

    /** "What it used until then counts, this STEP, too; new that fails uses no CELLS." */
    private static void failures() {
        String[] bodies = {"@fail;", "x = 1; @fail;", "x = 1; x = new 3; @fail;", "@x = len 5; fail;", "x = read; @x = x[0]; fail;",
            "x = new 3; @x[3] = 1; fail;", "x = new 3; x = read; @x = new -1; fail;"};
        int[][] want = {{1, 1, 0, 0, 0}, {1, 2, 0, 0, 0}, {1, 3, 4, 1, 0}, {3, 1, 0, 0, 0}, {3, 2, 0, 0, 1}, {4, 2, 4, 1, 0}, {5, 3, 4, 1, 1}};
        String[] cells = {"9", "9", "9; 5", "9", "9", "9; 5", "9; 5; 5"};
        for (int k = 0; k < bodies.length; k++) {
            String head = "method f() steps 9 cells 9 { var x; a: ";
            int statements = bodies[k].split(";").length - 1;
            String text = head + bodies[k].replace("@", "") + " by {" + (8 - statements) + "; " + cells[k] + "} }";
            BoundHouse house = Kit.taken(text);
            Kit.due(bodies[k], house.run(0, 0, 0, 0), 1);
            dueAbout(house, bodies[k], 1, want[k][1], want[k][2], 1, 1, head.length() + bodies[k].indexOf('@'), want[k][0], want[k][3],
                    want[k][4]);
            Kit.due(bodies[k] + " result", house.result(), 0);
        }
        // in a call: the place is that of the statement there, and the run has failed
        String text = "method f() steps 9 cells 9 { var x; a: x = g(); return 5; by {7; 9; 4; 4} }"
                + " method g() steps 3 cells 5 { var x; a: x = new 4; x = x[4]; return x; by {0; 5; 0} }";
        BoundHouse house = Kit.taken(text);
        Kit.due("in a call", house.run(0, 0, 0, 0), 1);
        dueAbout(house, "in a call", 1, 3, 5, 2, 2, text.indexOf("x = x[4]"), 4, 1, 0);
        Kit.due("in a call, result", house.result(), 0);
        Kit.due("in a call, overs", house.overs(), 0);
    }
}
