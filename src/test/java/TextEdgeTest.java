/** Terms, chapter I: for each of its sentences that names an edge a test; the sign @ stands at the place that is due. */
public final class TextEdgeTest {
    private static final String TAIL = " steps 1 cells 0 { a: return 0; by {0; 0} }";
    private static final String TINY = "method f()" + TAIL;
    private static final String NO_NAMES =
            "method needs steps cells gives result var keeps left goto if else return fail new len read by";

    public static void main(String[] args) {
        bytesThatAreNone();
        bytesThatBeginNoToken();
        blanks();
        longWords();
        wordsThatAreNoNames();
        longNumbers();
        lettersBehindNumbers();
        signsAsLongAsTheyCanBe();
        textsThatEndTooEarly();
        textsThatEndInAToken();
        emptyTexts();
        theFirstOfMany();
        Kit.end();
    }

    private static void taken(String text) {
        Kit.dueFault(text, 0, -1);
    }

    /** "TEXTS are bytes 10, 32 .. 126 (others are SYNTAX at them)". */
    private static void bytesThatAreNone() {
        for (int b = 0; b < 256; b++) {
            if (b != 10 && (b < 32 || b > 126)) {
                dueAtByte((char) b);
            }
        }
    }

    /** Bytes of texts that stand in no token. */
    private static void bytesThatBeginNoToken() {
        for (char b : "!\"$&'.?@\\_`|~".toCharArray()) {
            dueAtByte(b);
        }
    }

    /** A byte that no text has, at the beginning, in a word, in a number, in a sign, and behind the last token. */
    private static void dueAtByte(char b) {
        String[] heads = {"", "\n ", "method", "method ", "method f", "method f(", "method f(n", "method f(n) steps 1",
            "method f(n) steps 1 cells 0 { a: if n <", "method f() steps 1 cells 0 { a: return 0; by {#", TINY, TINY + " "};
        for (String head : heads) {
            Kit.dueFault(head + b, 1, head.length());
            Kit.dueFault(head + b + "n = 1", 1, head.length());
        }
    }

    /** "BLANKS: 10, 32." */
    private static void blanks() {
        taken("method f(n)needs n>=0 steps 3 cells 0{a:if n<1 goto b else b;by{2;0;1;0;1;0}b left 1,0:fail;by{0;0}}");
        taken("\n\nmethod\n\nf\n(\n)\nsteps\n1\ncells\n0\n{\na\n:\nreturn\n-\n0\n;\nby\n{\n0\n;\n0\n}\n}\n\n");
        taken("  method  f  (  )  steps  1  cells  0  {  a  :  return  -  0  ;  by  {  0  ;  0  }  }  ");
        taken(" \n method \n f(n\n ) needs n >= 0 steps \n1 cells\n 0{a:return 0;by{ 1 : 0 + 0 ; 0 * \n # \n 0}}");
        Kit.dueFault(1, "@met hod f()" + TAIL);
        Kit.dueFault(1, "method f @g()" + TAIL);
        Kit.dueFault(1, "method f() steps 1 @1 cells 0 { a: return 0; by {0; 0} }");
        Kit.dueFault(1, "method f(n) needs n @> = 0" + TAIL);
        Kit.dueFault(1, "method f(n) needs n @>\n= 0" + TAIL);
        Kit.dueFault(1, "method f(n) steps 1 cells 0 { a: if n < @= 1 goto b else b; }");
        Kit.dueFault(1, "method f(n) steps 1 cells 0 { a: if n @= = 1 goto b else b; }");
        Kit.dueFault(1, "method f(n) steps 1 cells 0 { a: if n @! = 1 goto b else b; }");
    }

    /** "WORDS: a letter, then letters and digits, at most 8 signs". */
    private static void longWords() {
        String[] words = {"a", "Z", "abcdefgh", "ABCDEFGH", "a1234567", "zZ9zZ9zZ", "A0"};
        String[] tooLong = {"abcdefghi", "ABCDEFGHI", "a12345678", "methodmet", "abcdefghijklmnopqrstuvwxyz0123456789"};
        String[] places = {
            "method @W() steps 1 cells 0 { a: return 0; by {0; 0} }",
            "method f(@W) steps 1 cells 0 { a: return 0; by {0; 0} }",
            "method f(q,@W) steps 1 cells 0 { a: return 0; by {0; 0} }",
            "method f() steps 1 cells 0 { var @W; a: return 0; by {0; 0} }",
            "method f() steps 1 cells 0 { @W: return 0; by {0; 0} }",
            "method f() steps 1 cells 0 { q: return 0; by {0; 0} @W left 1, 0: return 0; by {0; 0} }"};
        for (String place : places) {
            for (String word : words) {
                taken(place.replace("@W", word));
            }
            for (String word : tooLong) {
                Kit.dueFault(1, place.replace("W", word));
            }
        }
        String[] uses = {"needs @W >= 0 steps 9 cells 9 { var x; a: fail; }", "steps @W cells 9 { var x; a: fail; }",
            "steps 9 cells 2*@W { var x; a: fail; }", "steps 9 cells 9 { var x; a: x = @W; fail; }",
            "steps 9 cells 9 { var x; a: x = @W(1); fail; }", "steps 9 cells 9 { var x; a: x = @W[1]; fail; }",
            "steps 9 cells 9 { var x; a: @W[1] = 1; fail; }", "steps 9 cells 9 { var x; a: goto @W; }",
            "steps 9 cells 9 { var x; a: if x < 1 goto @W else q; }",
            "steps 9 cells 9 { var x; a: if x < 1 goto q else @W; q left 1, 0: fail; }",
            "steps 9 cells 9 { var x; a: return @W; }"};
        for (String use : uses) {
            Kit.dueFault(2, "method f() " + use.replace("W", "abcdefgh"));
            Kit.dueFault(1, "method f() " + use.replace("W", "abcdefghi"));
        }
        // a word is known by all its signs
        Kit.dueFault(2, "method f(abcdefgh) steps @abcdefgi cells 0 { a: return 0; by {0; 0} }");
        Kit.dueFault(2, "method f(abcdefgh) steps @bbcdefgh cells 0 { a: return 0; by {0; 0} }");
        Kit.dueFault(2, "method f(abcdefgh) steps @abcdefg cells 0 { a: return 0; by {0; 0} }");
        Kit.dueFault(2, "method f(n) steps @N cells 0 { a: return 0; by {0; 0} }");
        taken("method f(n,N,n0) steps 1 cells 0 { a: return 0; by {0; 0} }");
    }

    /** "of these are no names: method needs .. by". */
    private static void wordsThatAreNoNames() {
        String[] places = {
            "method @W() steps 1 cells 0 { a: return 0; by {0; 0} }",
            "method f(@W) steps 1 cells 0 { a: return 0; by {0; 0} }",
            "method f() steps 1 cells 0 { var @W; a: return 0; by {0; 0} }",
            "method f() steps 1 cells 0 { var x,@W; a: return 0; by {0; 0} }",
            "method f() steps 1 cells 0 { var x; @W: return 0; by {0; 0} }",
            "method f() steps 1 cells 0 { a: goto @W; }",
            "method f() steps 1 cells 0 { a: if 1 < 2 goto @W else b; }",
            "method f() steps 1 cells 0 { a: if 1 < 2 goto b else @W; }",
            "method f() steps 1 cells 0 { a: return @W; }",
            "method f() steps 1 cells 0 { a: return 0; by {@W; 0} }"};
        for (String word : NO_NAMES.split(" ")) {
            for (String place : places) {
                Kit.dueFault(1, place.replace("W", word));
            }
            String upper = word.substring(0, 1).toUpperCase() + word.substring(1);
            taken("method " + upper + "(" + word + "1)" + TAIL);
            taken("method f(" + word + "s) steps 1 cells 0 { var " + upper + "; " + word + "0: return 0; by {0; 0} }");
        }
    }

    /** Places of numbers, with the marked number W, and what is due if it is fit: its FAULT, and where. */
    private static final String[] NUMBER_PLACES = {
        "method f(n) needs n >= @W steps 1 cells 0 { a: fail; by {0; 0} }",
        "method f(n) steps @W cells 0 { a: fail; by {0; 0} }",
        "method f(n) steps 1 cells n*@W { a: fail; by {0; 0} }",
        "method f(n) steps 1 cells n^@W { a: fail; by {0; 0} }",
        "method f(n) steps 1 cells 0 { var x; a: x = @W; fail; by {0; 0} }",
        "method f(n) steps 1 cells 0 { var x; a: x = -@W; fail; by {0; 0} }",
        "method f(n) steps 1 cells 0 { var x; a: x = n + @W; fail; by {0; 0} }",
        "method f(n) steps 1 cells 0 { var x; a: x = n / @W; fail; by {0; 0} }",
        "method f(n) steps 1 cells 0 { var x; a: x = n % @W; fail; by {0; 0} }",
        "method f(n) steps 1 cells 0 { var x; a: x = new @W; fail; by {0; 0} }",
        "method f(n) steps 1 cells 0 { var x; a: x = f(@W); fail; by {0; 0} }",
        "method f(n) steps 1 cells 0 { var x; a: x[@W] = 1; fail; by {0; 0} }",
        "method f(n) steps 1 cells 0 { var x; a: if n < @W goto b else b; }",
        "method f(n) steps 1 cells 0 { var x; a: return @W; by {0; 0} }",
        "method f(n) steps 1 cells 0 { var x; a: fail; by {@W; 0} }",
        "method f(n) steps 1 cells 0 { var x; a: fail; by {@W: 0; 0} }",
        "method f(n) steps 1 cells 0 { var x; a: fail; by {2: @W; 0} }",
        "method f(n) steps 1 cells 0 { var x; a: fail; by {0 + @W; 0} }",
        "method f(n) steps 1 cells 0 { var x; a: fail; by {@W*#0; 0} }",
        "method f(n) steps 1 cells 0 { var x; a: fail; by {#@W; 0} }",
        "method f(n) steps 1 cells 0 { var x; a: fail; by {#0*#@W; 0} }"};

    /** "NUMBERS: digits, at most 8": zeros ahead count. */
    private static void longNumbers() {
        for (String place : NUMBER_PLACES) {
            for (String number : new String[] {"1", "00000001", "99999999", "00000000"}) {
                dueNoSyntax(place.replace("@W", number));
            }
            for (String number : new String[] {"123456789", "000000001", "000000000", "18446744073709551617"}) {
                Kit.dueFault(1, place.replace("W", number));
            }
        }
        taken("method f(n) steps 00000001 cells 00000000 { a: return 99999999; by {00000000; 0} }");
        BoundHouse house = Kit.taken("method f() steps 1 cells 0 { a: return 99999999; by {0; 0} }");
        house.run(0, 0, 0, 0);
        Kit.due("99999999", house.result(), 99_999_999);
        house = Kit.taken("method f() steps 1 cells 0 { a: return -00000010; by {0; 0} }");
        house.run(0, 0, 0, 0);
        Kit.due("-00000010", house.result(), -10);
    }

    /** ".. no letter behind": a number with one is none; with another sign it is one. */
    private static void lettersBehindNumbers() {
        for (String place : NUMBER_PLACES) {
            for (String number : new String[] {"1a", "12345678Z", "0x", "1z ", "7by"}) {
                Kit.dueFault(1, place.replace("W", number));
            }
        }
        Kit.dueFault(1, "method f() steps @1cells 0 { a: return 0; by {0; 0} }");
        Kit.dueFault(1, "method f(n) steps n^@2cells 0 { a: return 0; by {0; 0} }");
        taken("method f(n)steps 3+0*n+0-0 cells 0{a:if 0<1 goto b else b;by{2;0;1;0;1;0}b left 1,0:fail;by{0;0}}");
    }

    private static void dueNoSyntax(String text) {
        BoundHouse house = new BoundHouse();
        Kit.due("SYNTAX of [" + text + "]", Kit.judge(house, text) == 1 ? 1 : 0, 0);
    }

    /** "TOKENS, as long as they can be", "SIGNS: .. <= >= == !=". */
    private static void signsAsLongAsTheyCanBe() {
        String[] relations = {"<", "<=", ">", ">=", "==", "!="};
        for (String rel : relations) {
            String text = "method f(n) steps 3 cells 0{a:if n" + rel + "-1 goto b else b;by{2;0;1;0;1;0}"
                    + "b left 1,0:fail;by{0;0}}";
            taken(text);
            int behind = text.indexOf("n" + rel) + 1 + rel.length();
            boolean longer = rel.length() == 1;
            String more = text.replace("n" + rel, "n" + rel + "=");
            Kit.dueFault(more, longer ? 0 : 1, longer ? -1 : behind);
            Kit.dueFault(text.replace("n" + rel, "n" + rel + "<"), 1, behind);
        }
        Kit.dueFault(1, "method f(n) needs n >=@= 0" + TAIL);
        Kit.dueFault(1, "method f(n) needs n @== 0" + TAIL);
        Kit.dueFault(1, "method f(n) needs n @=>= 0" + TAIL);
        Kit.dueFault(1, "method f(n) needs n @!= 0" + TAIL);
        Kit.dueFault(1, "method f(n) needs n @< 0" + TAIL);
        Kit.dueFault(1, "method f(n) needs n <=@> 0" + TAIL);
        Kit.dueFault(1, "method f() steps 1 cells 0 { var x; a: x @== 1; fail; }");
        Kit.dueFault(1, "method f() steps 1 cells 0 { var x; a: x = @== 1; fail; }");
        Kit.dueFault(1, "method f() steps 1 cells 0 { var x; a: x[0]@==1; fail; }");
        Kit.dueFault(1, "method f() steps 1 cells 0 { var x; a: x=-@-1; fail; }");
        Kit.dueFault(1, "method f() steps 1 cells 0 { a: fail; by {#@#0; 0} }");
        Kit.dueFault(1, "method f() steps 1 cells 0 { a: fail;@; by {0; 0} }");
    }

    /** All that a text can have, token by token. */
    private static final String WHOLE = "method f ( n , m ) needs n >= 0 , 2 * m ^ 2 - m <= - 3 + n * 4 steps 9 * n + 1"
            + " cells 0 gives result >= 0 , result ^ 2 >= n { var x , y ; a : x = new 1 ; x = new n ; y = len x ;"
            + " y = read ; y = f ( n , - 1 ) ; y = x [ 0 ] ; x [ n ] = - 5 ; goto b ;"
            + " by { 2 : 3 * # 0 + # 0 * # 1 ; 0 ; # 1 * # 0 + 5 ; 7 : 1 + 2 }"
            + " b keeps x >= 0 , y <= 1 left n , 0 : x = n ; x = - 1 ; x = n + 1 ; x = 1 - n ; x = n * - 2 ; x = n / 3 ;"
            + " x = n % 4 ; if n < - 1 goto c else b ; by { 0 }"
            + " c left 1 , 1 : if 1 != n goto c else c ; d left 1 , 1 : return - 0 ; e left 1 , 1 : fail ;";

    /** "or the end": the place is then that behind the last byte. */
    private static void textsThatEndTooEarly() {
        String[] tokens = WHOLE.split(" ");
        StringBuilder text = new StringBuilder();
        for (String token : tokens) {
            text.append(text.length() == 0 ? "" : " ").append(token);
            Kit.dueFault(text.toString(), 1, text.length());
            Kit.dueFault(text + " ", 1, text.length() + 1);
            Kit.dueFault(text + "\n  \n", 1, text.length() + 4);
        }
        // whole with its last sign, and then of two methods
        dueNoSyntax(WHOLE + " }");
        Kit.dueFault(WHOLE + " } method", 1, WHOLE.length() + 9);
        Kit.dueFault(1, WHOLE + " } @}");
        Kit.dueFault(1, WHOLE + " } @f");
        Kit.dueFault(1, WHOLE + " } @;");
        Kit.dueFault(1, WHOLE + " } @1");
        taken(TINY);
        taken(TINY + TINY.replace("f()", "g()"));
        for (int n = TINY.length() + 1; n < TINY.length() + 7; n++) {
            // 'method' that is cut is a name, and no text goes on with one
            boolean cut = n < TINY.length() + 6;
            BoundHouse house = new BoundHouse();
            Kit.feed(house, TINY + TINY.replace("f()", "g()"));
            Kit.due("cut at " + n, house.judge(n), 1);
            Kit.due("cut at " + n + ", its place", house.fault(1), cut ? TINY.length() : n);
        }
    }

    /** The end makes a token of what stands ahead of it, whatever stands behind the first n bytes. */
    private static void textsThatEndInAToken() {
        dueCut("method f() steps 12345678", "9 cells", 25);
        dueCut("method f() steps 1", "a cells", 18);
        dueCut("method abcdefgh", "i()", 15);
        dueCut("method f(n) needs n >=", "= 0", 22);
        dueCut("method f(n) needs n >", "= 0", 20);
        dueCut("method f(n) steps 1 cells 0 { a: if n <", "= 1", 39);
        dueCut("method f(n) steps 1 cells 0 { a: if n !", "= 1", 38);
        dueCut("metho", "d f()", 0);
        dueCut("method f(need", "s", 13);
        dueCut("method f() need", "s", 11);
    }

    private static void dueCut(String text, String behind, int place) {
        BoundHouse house = new BoundHouse();
        Kit.feed(house, text + behind);
        Kit.due("[" + text + "] ahead of [" + behind + "]", house.judge(text.length()), 1);
        Kit.due("[" + text + "] ahead of [" + behind + "], its place", house.fault(1), place);
    }

    /** "text: method*": none is a text, too. */
    private static void emptyTexts() {
        for (String text : new String[] {"", " ", "\n", " \n \n\n ", " ".repeat(4000)}) {
            BoundHouse house = new BoundHouse();
            Kit.due("an empty text", Kit.judge(house, text), 0);
            Kit.due("an empty text, fault(0)", house.fault(0), 0);
            Kit.due("an empty text, fault(1)", house.fault(1), -1);
            for (int what = 0; what < 4; what++) {
                Kit.due("an empty text, count(" + what + ")", house.count(what), 0);
            }
            Kit.due("an empty text, run", house.run(0, 0, 0, 0), -1);
            Kit.due("an empty text, bound", house.bound(0, 0, 0, 0, 0), -1);
            Kit.due("an empty text, shown", house.shown(0, 0), -1);
            Kit.due("an empty text, term", house.term(0, 0, -1), 0);
            Kit.due("an empty text, about", house.about(0), -1);
        }
        BoundHouse house = Kit.taken(TINY);
        house.run(0, 0, 0, 0);
        Kit.due("empty behind a program", house.judge(0), 0);
        Kit.due("empty behind a program, its methods", house.count(0), 0);
        Kit.due("empty behind a program, its run", house.about(0), -1);
        Kit.dueFault(1, "method f() steps 1 cells 0 {@}");
        Kit.dueFault(1, "method f() steps 1 cells 0 { a:@}");
        Kit.dueFault(1, "method f() steps 1 cells 0 { a: fail; by {@} }");
        Kit.dueFault(1, "method f() needs @steps 1 cells 0 { a: fail; }");
        Kit.dueFault(1, "method f() steps @cells 0 { a: fail; }");
        Kit.dueFault(1, "method f() steps 1 cells 0 gives @{ a: fail; }");
        Kit.dueFault(1, "method f() steps 1 cells 0 { var @; a: fail; }");
        Kit.dueFault(1, "method @() steps 1 cells 0 { a: fail; }");
    }

    /** "the first token (..) with which no text goes on": of several only the first counts. */
    private static void theFirstOfMany() {
        Kit.dueFault(1, "method @1a abcdefghi \u0080 123456789");
        Kit.dueFault(1, "method @abcdefghi 1a \u0080 123456789");
        Kit.dueFault(1, "method @\u0080 abcdefghi 1a 123456789");
        Kit.dueFault(1, "method @123456789 abcdefghi 1a \u0080");
        Kit.dueFault(1, "method f @; abcdefghi 1a \u0080");
        Kit.dueFault(1, "@\u0000\u0000");
        Kit.dueFault(1, TINY + "@\u007f method");
    }
}
