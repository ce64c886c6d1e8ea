/** Programs that are taken. */
final class Texts {
    private Texts() {
    }

    static final String LOOP = "method f(n) needs n >= 0 steps 5*n + 4 cells 0 gives result >= n, result <= n"
            + " { var i; top: goto head; by {3+5*#0; 0; 0; #0; 1; 0}"
            + " head keeps i >= 0, n - i >= 0 left 5*n - 5*i + 2, 0: if i < n goto body else out;"
            + " by {1+5*#2; 0; #1; #3; 0; 0; #2; #3; 0+5*#2; 0}"
            + " body keeps i >= 0, n - i - 1 >= 0 left 5*n - 5*i + 1, 0: i = i + 1; goto head;"
            + " by {4+5*#2; 0; 1+#1; #2; 2; 0}"
            + " out keeps n - i >= 0, i - n >= 0 left 1, 0: return i; by {0; 0; #2; #1} }";

    static final String RECURSION = "method r(n) needs n >= 0 steps 6*n + 4 cells 0 gives result >= 0"
            + " { var m,q; a: if n > 0 goto more else base; by {3+6*#0; 0; #1; 1; 0; 1+6*#0; 0}"
            + " more keeps n - 1 >= 0 left 6*n + 2, 0: m = n - 1; q = r(m); q = q + n; return q;"
            + " by {4+6*#1; 0; #1; 0; 0; #2+#0} base left 2, 0: return 0; by {1; 0; 0} }";

    static final String HALVES = "method h(n) needs n >= 0 steps 8*n + 4 cells 0"
            + " { var x,q; a: x = n; goto head; by {2+8*#0; 0; #0; 0; 0}"
            + " head keeps x >= 0 left 8*x + 2, 0: if x >= 1 goto body else out;"
            + " by {1+8*#1; 0; #2; 0; 0; 0+8*#1; 0}"
            + " body keeps x - 1 >= 0 left 8*x + 1, 0: q = x / 2; x = q; goto head;"
            + " by {6+8*#1; 0; 2: #3+#1; 4*#1+4*#2; 0} out left 1, 0: return x; by {0; 0} }";

    static final String ARRAYS = "method in1(z) needs z >= 0 steps 3*z + 4 cells z + 1 gives result >= 1"
            + " { var q; a: q = new z; return q; by {2+3*#0; 1+#0; 0; #2} }"
            + " method out1(u,w) needs u >= 0, w - u >= 0 steps 3*w + 3*u + 14 cells u + w + 2 gives result >= 2"
            + " { var x,y,v; a: x = in1(u); y = in1(w); v = x + y; return v;"
            + " by {10+6*#0+3*#1; 2+2*#0+#1; #0; 6+3*#0+3*#1; 1+#0+#1; #1+#0; 2; 0; #2+#3} }";

    /** Fills an array with what is given, and adds it up. */
    static final String FILL = "method s(n) needs n >= 0 steps 9*n + 20 cells n + 1 { var x,i,t,y;"
            + " a: x = new n; goto h; by {18+9*#0; 1+#0; 0; #0; 8; 0}"
            + " h keeps n - i >= 0 left 9*n - 9*i + 10, 0: if i < n goto b else o;"
            + " by {9+9*#1; 0; #2; 1; 0; 6+9*#1; 0}"
            + " b keeps n - i - 1 >= 0 left 9*n - 9*i + 8, 0: t = read; x[i] = t; t = x[i]; y = y + t; i = i + 1; goto h;"
            + " by {11+9*#1; 0; #1; 1; 0} o left 3, 0: return y; by {2; 0} }";

    static final String PARITY = "method p(n) steps 6 cells 0 gives result >= 0, result <= 1 { var r;"
            + " a: r = n % 2; if r == 0 goto e else o; by {4; 0; 2; 0; 2; 0}"
            + " e left 2, 0: return 1; by {1; 0; 1; 0} o left 2, 0: return 0; by {1; 0; 0; 1} }";
}
