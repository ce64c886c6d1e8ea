import java.math.BigInteger;
import java.util.ArrayList;
import java.util.List;
import java.util.Map;
import java.util.Random;

/** Makes texts by chance (from a seed, so that each run makes the same ones): new ones, and ones that are changed. */
final class Maker {
    private static final String[] WORDS = {"method", "needs", "steps", "cells", "gives", "result", "var", "keeps",
        "left", "goto", "if", "else", "return", "fail", "new", "len", "read", "by", "(", ")", "{", "}", "[", "]", ",",
        ";", ":", "=", "<", ">", "+", "-", "*", "/", "%", "#", "^", "<=", ">=", "==", "!=", "!", "a", "n", "x", "i",
        "f", "q", "0", "1", "2", "7", "99999999", "100000000", "abcdefgh", "abcdefghi", "12x", "$"};
    private static final String[][] ALIKE = {{"+", "-", "*"}, {"/", "%"}, {"<", "<=", ">", ">=", "==", "!="},
        {">=", "<="}, {"+", "-"}, {"new", "len"}, {",", ";"}};

    private final Random chance;

    Maker(long seed) {
        chance = new Random(seed);
    }

    int below(int n) {
        return chance.nextInt(n);
    }

    private boolean once(int n) {
        return chance.nextInt(n) == 0;
    }

    private String any(String... choices) {
        return choices[below(choices.length)];
    }

    // ---- changed texts

    private static List<int[]> pieces(String text) {
        List<int[]> pieces = new ArrayList<>();
        java.util.regex.Matcher matcher = java.util.regex.Pattern
                .compile("[A-Za-z][A-Za-z0-9]*|[0-9]+|<=|>=|==|!=|[^ \\n]").matcher(text);
        while (matcher.find()) {
            pieces.add(new int[] {matcher.start(), matcher.end()});
        }
        return pieces;
    }

    /** Changes one token so that the text most likely goes on. */
    private String changeGently(String text) {
        List<int[]> pieces = pieces(text);
        for (int turn = 0; turn < 50 && !pieces.isEmpty(); turn++) {
            int[] piece = pieces.get(below(pieces.size()));
            String token = text.substring(piece[0], piece[1]);
            String other = token;
            if (Character.isDigit(token.charAt(0))) {
                long old = token.length() < 10 ? Long.parseLong(token) : 5;
                other = any("0", "1", "2", "3", "6", "7", "9", "99999999", "" + (old + 1), "" + Math.max(0, old - 1),
                        "" + old * 3, "50000000");
            } else if (Character.isLetter(token.charAt(0))) {
                int[] second = pieces.get(below(pieces.size()));
                other = text.substring(second[0], second[1]);
                if (!Character.isLetter(other.charAt(0)) || token.length() > 3 || other.length() > 4) {
                    continue;
                }
            } else {
                for (String[] row : ALIKE) {
                    for (String one : row) {
                        if (one.equals(token) && once(2)) {
                            other = any(row);
                        }
                    }
                }
            }
            if (!other.equals(token)) {
                return text.substring(0, piece[0]) + other + text.substring(piece[1]);
            }
        }
        return text;
    }

    private String changeRoughly(String text) {
        List<int[]> pieces = pieces(text);
        if (pieces.isEmpty()) {
            return any(WORDS);
        }
        int[] piece = pieces.get(below(pieces.size()));
        int[] second = pieces.get(below(pieces.size()));
        String ahead = text.substring(0, piece[0]);
        String token = text.substring(piece[0], piece[1]);
        String behind = text.substring(piece[1]);
        switch (below(6)) {
            case 0:
                return ahead + behind;
            case 1:
                return ahead + any(WORDS) + behind;
            case 2:
                return ahead + token + " " + any(WORDS) + " " + behind;
            case 3:
                return ahead + text.substring(second[0], second[1]) + behind;
            case 4:
                return ahead + text.substring(Math.min(second[0], piece[0]), piece[1]) + " "
                        + text.substring(Math.min(second[0], piece[0]));
            default:
                int at = below(text.length());
                return text.substring(0, at) + (char) any(0, 10, 31, 32, 33, 36, 126, 127, 128, 255, 65, 48)
                        + text.substring(at + below(2));
        }
    }

    private int any(int... choices) {
        return choices[below(choices.length)];
    }

    /** Takes a witness away, brings one twice, or takes all of a block away. */
    private String changeWitnesses(String text) {
        int by = text.indexOf("by {", below(text.length() + 1));
        int end = by < 0 ? -1 : text.indexOf('}', by);
        int semicolon = by < 0 ? -1 : text.indexOf(';', by);
        if (end < 0) {
            return text;
        }
        if (semicolon < 0 || semicolon > end || once(5)) {
            return text.substring(0, by) + text.substring(end + 1);
        }
        String one = text.substring(by + 4, semicolon + 1);
        return text.substring(0, by + 4) + (once(2) ? one + one : "") + text.substring(semicolon + 1);
    }

    String changed(String text) {
        if (once(12)) {
            return changeWitnesses(text);
        }
        String now = text;
        int times = 1 + below(3);
        boolean gently = !once(3);
        for (int turn = 0; turn < times; turn++) {
            now = gently ? changeGently(now) : changeRoughly(now);
        }
        return now.length() > 3980 ? now.substring(0, 3980) : now;
    }

    // ---- new texts

    private List<String> names;
    private int params;

    private String atom() {
        return once(3) ? any("0", "1", "2", "-1", "3", "7") : names.isEmpty() ? "4" : names.get(below(names.size()));
    }

    private String local() {
        return names.get(params + below(names.size() - params));
    }

    private String exp(List<Integer> arities) {
        int kind = below(14);
        if (kind < 5) {
            return atom() + " " + any("+", "-", "*") + " " + atom();
        } else if (kind == 5) {
            return atom() + any("/", "%") + (1 + below(4));
        } else if (kind == 6) {
            return "new " + atom();
        } else if (kind == 7) {
            return "len " + atom();
        } else if (kind == 8) {
            return "read";
        } else if (kind == 9 && names.size() > 0) {
            return names.get(below(names.size())) + "[" + atom() + "]";
        } else if (kind < 12 && !arities.isEmpty()) {
            int m = below(arities.size());
            StringBuilder call = new StringBuilder("m" + m + "(");
            for (int k = 0; k < arities.get(m); k++) {
                call.append(k == 0 ? "" : ", ").append(atom());
            }
            return call.append(")").toString();
        }
        return atom();
    }

    private String conds(int most) {
        StringBuilder conds = new StringBuilder();
        int n = 1 + below(most);
        for (int k = 0; k < n; k++) {
            conds.append(k == 0 ? "" : ", ");
            String x = names.isEmpty() ? "1" : names.get(below(names.size()));
            String y = names.isEmpty() ? "2" : names.get(below(names.size()));
            conds.append(any(x + " >= 0", x + " >= 0", "0 <= " + x, x + " - " + y + " >= 0", "3 >= 1",
                    x + "*" + y + " >= 0", x + (names.isEmpty() ? "" : "^2") + " >= 0"));
        }
        return conds.toString();
    }

    private String body(List<Integer> arities, List<String> goals, int more) {
        StringBuilder body = new StringBuilder();
        for (int k = below(more); k > 0 && names.size() > params; k--) {
            if (once(10)) {
                body.append(local()).append("[").append(atom()).append("] = ").append(atom()).append("; ");
            } else {
                body.append(local()).append(" = ").append(exp(arities)).append("; ");
            }
        }
        if (goals.isEmpty() || once(4)) {
            body.append(once(6) ? "fail;" : "return " + atom() + ";");
        } else if (once(2)) {
            body.append("goto ").append(goals.get(below(goals.size()))).append(";");
        } else {
            body.append("if ").append(atom()).append(any("<", "<=", ">", ">=", "==", "!=")).append(atom())
                    .append(" goto ").append(goals.get(below(goals.size()))).append(" else ")
                    .append(goals.get(below(goals.size()))).append(";");
        }
        return body.toString();
    }

    private String linear(int number) {
        StringBuilder poly = new StringBuilder("" + number);
        for (int k = 0; k < params; k++) {
            poly.append(" + ").append(5 + number / 20).append("*").append(names.get(k));
        }
        return poly.toString();
    }

    /** A new program; each block has a mark where its witnesses are wanted. */
    private String skeleton() {
        StringBuilder text = new StringBuilder();
        List<Integer> arities = new ArrayList<>();
        int methods = 1 + below(3);
        int room = 40;
        for (int m = 0; m < methods; m++) {
            names = new ArrayList<>(List.of("a", "b", "c").subList(0, below(4)));
            params = names.size();
            text.append("method m").append(m).append("(").append(String.join(",", names)).append(") ");
            if (params > 0 && !once(6)) {
                text.append("needs ").append(once(3) ? conds(4) : String.join(" >= 0, ", names) + " >= 0 ");
            }
            text.append(" steps ").append(linear(room)).append(" cells ").append(linear(room)).append(" ");
            if (once(3)) {
                text.append("gives result >= 0 ");
            }
            int first = names.size();
            names.addAll(List.of("x", "y", "z").subList(0, below(4)));
            text.append("{ ");
            if (names.size() > first) {
                text.append("var ").append(String.join(",", names.subList(first, names.size()))).append("; ");
            }
            arities.add(params);
            int blocks = 1 + below(4);
            for (int b = 0; b < blocks; b++) {
                List<String> goals = new ArrayList<>();
                for (int g = once(8) ? 1 : b + 1; g < blocks; g++) {
                    goals.add("b" + g);
                }
                text.append("b").append(b);
                if (b > 0) {
                    text.append(once(3) ? " keeps " + conds(3) : "").append(" left ");
                    text.append(linear(room - room * b / blocks)).append(", ");
                    text.append(linear(room - room * b / blocks));
                }
                List<Integer> called = once(5) ? arities : arities.subList(0, m);
                text.append(": ").append(body(called, goals, once(4) ? 11 : 4)).append(" @ ");
            }
            text.append("} ");
            room *= 12;
        }
        return text.toString();
    }

    private String mono() {
        StringBuilder mono = new StringBuilder();
        for (int k = 1 + below(4); k > 0; k--) {
            mono.append(once(4) ? any("2", "3", "0", "9", once(9) ? "9999" : "4")
                    : names.get(below(names.size())) + any("", "", "^2", once(9) ? "^6" : "^1")).append(k > 1 ? "*" : "");
        }
        return mono.toString();
    }

    private String poly(int most) {
        StringBuilder poly = new StringBuilder(once(4) ? "-" : "").append(mono());
        for (int k = below(most); k > 0; k--) {
            poly.append(any(" + ", " - ")).append(mono());
        }
        return poly.toString();
    }

    /** A program in which polys grow, and are TOO BIG somewhere, or nearly. */
    private String growing() {
        names = new ArrayList<>(List.of("a", "b", "c"));
        params = 3;
        String helper = " method h(a,b,c) needs " + any("a >= 0", poly(6) + " >= " + poly(3)) + " steps "
                + any("7", poly(4)) + " cells " + any("3*a", poly(4)) + " gives result >= " + poly(3) + " { o: fail; @ }";
        StringBuilder text = new StringBuilder("method g(a,b,c) needs a >= 0, b >= 0, c >= 0 steps 90000000 cells "
                + (once(4) ? poly(3) : "999*a") + " + 40 { var x,y,z; s: x = a " + any("+", "*") + " b; y = x + "
                + any("c", "2", "a") + "; ");
        names.addAll(List.of("x", "y", "z"));
        for (int k = below(9); k > 0; k--) {
            String value = once(4) ? any("2", "-1", "9999", "99999999", "-99999999") : any("x", "y", "z", "a", "b");
            String other = any("x", "y", "x", "y", "z", "c");
            text.append(any("x", "y", "z", "y")).append(" = ").append(once(12) ? other + any("/", "%") + any("2", "99999999")
                    : once(14) ? "new " + other : once(14) ? "h(" + value + ", " + other + ", " + other + ")"
                    : value + any("*", "*", "+", "-") + other).append("; ");
        }
        text.append(any("fail;", "goto t;", "return y;", "if x < y goto t else t;", "if y == z goto t else t;"));
        text.append(" @ t keeps ").append(poly(4)).append(" >= ").append(poly(2)).append(" left ").append(poly(3));
        return text.append(", ").append(poly(3)).append(": fail; @ }").append(helper).toString();
    }

    /** A new program, with witnesses as far as some were found. */
    String fresh() {
        String marked = once(3) ? growing() : skeleton();
        Oracle read = new Oracle(Kit.bytes(marked.replace("@", "")), false);
        if (read.fault != 0) {
            return marked.replace("@", "");
        }
        StringBuilder text = new StringBuilder();
        int block = 0;
        List<Oracle.Block> blocks = new ArrayList<>();
        read.methods.forEach(method -> blocks.addAll(method.blocks));
        for (char sign : marked.toCharArray()) {
            if (sign != '@') {
                text.append(sign);
                continue;
            }
            int wanted = new Proof(read, blocks.get(block)).wanted();
            text.append("by {0").append("; 0".repeat(wanted - 1)).append("}");
            block++;
        }
        return repaired(text.toString());
    }

    private String repaired(String text) {
        String now = text;
        for (int turn = 0; turn < 150; turn++) {
            Oracle oracle = new Oracle(Kit.bytes(now), true);
            if (oracle.fault != 4) {
                return now;
            }
            Oracle.Witness bad = null;
            for (Oracle.Witness witness : oracle.witnesses) {
                if (witness.at == oracle.place) {
                    bad = witness;
                }
            }
            String found = prove(bad.shown, bad.known, 5);
            int end = bad.at;
            while (now.charAt(end) != ';' && now.charAt(end) != '}') {
                end++;
            }
            if (found == null || now.substring(bad.at, end).trim().equals(found)) {
                return now;
            }
            now = now.substring(0, bad.at) + found + now.substring(end);
        }
        return now;
    }

    /** Looks for a witness: takes off hypotheses, and products of two, that go with the first term. */
    private static String prove(Sum poly, List<Sum> hyps, int depth) {
        if (poly.terms.isEmpty()) {
            return "0";
        }
        Map.Entry<int[], BigInteger> first = poly.terms.firstEntry();
        if (java.util.Arrays.stream(first.getKey()).sum() == 0) {
            return first.getValue().signum() > 0 ? first.getValue().toString() : null;
        }
        for (int i = 0; i < hyps.size() && depth > 0; i++) {
            for (int k = -1; k <= i; k++) {
                try {
                    Sum product = k < 0 ? hyps.get(i) : hyps.get(i).times(hyps.get(k));
                    if (product.terms.isEmpty()
                            || java.util.Arrays.compare(product.terms.firstKey(), first.getKey()) != 0) {
                        continue;
                    }
                    BigInteger[] times = first.getValue().divideAndRemainder(product.terms.firstEntry().getValue());
                    if (times[0].signum() <= 0 || times[1].signum() != 0 || times[0].bitLength() > 26) {
                        continue;
                    }
                    Sum rest = poly.minus(product.times(Sum.of(times[0].longValueExact())));
                    String more = prove(rest, hyps, depth - 1);
                    if (more != null) {
                        return times[0] + "*#" + i + (k < 0 ? "" : "*#" + k) + " + " + more;
                    }
                } catch (Sum.Big big) {
                    continue;
                }
            }
        }
        return null;
    }
}
