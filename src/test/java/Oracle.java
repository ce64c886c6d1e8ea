import java.util.ArrayList;
import java.util.List;
import java.util.Set;
import java.util.TreeSet;

/** Judges a text a second time, in the plainest way, to compare. */
final class Oracle {
    static final class Fault extends RuntimeException {
        private static final long serialVersionUID = 1;
        final int kind;
        final int place;

        Fault(int kind, int place) {
            this.kind = kind;
            this.place = place;
        }
    }

    record Token(String kind, String text, int at) {
    }

    record Factor(String name, int number, int power) {
    }

    record Mono(boolean minus, List<Factor> factors) {
    }

    record Written(int at, List<Mono> monos) {
    }

    record Cond(int at, Written left, boolean atMost, Written right) {
    }

    record Atom(String name, long number) {
    }

    static final class Step {
        int at;
        /** = + - * / % new len read call load store goto if return fail */
        String kind;
        String target;
        String base;
        String relation;
        final List<Atom> atoms = new ArrayList<>();
        final List<String> goals = new ArrayList<>();
    }

    record Product(long number, List<Integer> hyps) {
    }

    static final class Witness {
        int at;
        int block;
        long number = 1;
        final List<Product> products = new ArrayList<>();
        Sum shown;
        int hyps;
        /** The hypotheses that were there. */
        List<Sum> known;
    }

    static final class Block {
        String name;
        int at;
        int by = -1;
        Method method;
        final List<Cond> keepConds = new ArrayList<>();
        Written leftStepsText;
        Written leftCellsText;
        final List<Step> steps = new ArrayList<>();
        Step jump;
        final List<Witness> witnesses = new ArrayList<>();
        final List<Sum> keeps = new ArrayList<>();
        Sum leftSteps;
        Sum leftCells;
    }

    static final class Method {
        String name;
        final List<String> params = new ArrayList<>();
        final List<String> names = new ArrayList<>();
        final List<Cond> needConds = new ArrayList<>();
        final List<Cond> giveConds = new ArrayList<>();
        Written stepsText;
        Written cellsText;
        final List<Block> blocks = new ArrayList<>();
        final List<Sum> needs = new ArrayList<>();
        final List<Sum> gives = new ArrayList<>();
        Sum steps;
        Sum cells;

        Block block(String wanted) {
            for (int b = 1; b < blocks.size(); b++) {
                if (blocks.get(b).name.equals(wanted)) {
                    return blocks.get(b);
                }
            }
            return null;
        }
    }

    private static final Grammar GRAMMAR = new Grammar();
    private static final Set<String> WORDS = Set.of("method", "needs", "steps", "cells", "gives", "result", "var",
            "keeps", "left", "goto", "if", "else", "return", "fail", "new", "len", "read", "by");

    final List<Method> methods = new ArrayList<>();
    final List<Witness> witnesses = new ArrayList<>();
    int blocks = 0;
    int fault = 0;
    int place = -1;

    private final boolean proved;
    private List<Token> tokens;
    private int at = 0;
    private final TreeSet<Integer> broken = new TreeSet<>();

    Oracle(byte[] text, boolean proved) {
        this.proved = proved;
        try {
            judgeAll(text);
        } catch (Fault met) {
            fault = met.kind;
            place = met.place;
        }
    }

    Method method(String name) {
        for (Method method : methods) {
            if (method.name.equals(name)) {
                return method;
            }
        }
        return null;
    }

    private void judgeAll(byte[] text) {
        tokens = scan(text);
        List<String> kinds = new ArrayList<>();
        for (Token token : tokens) {
            kinds.add(token.kind());
        }
        int misfit = GRAMMAR.firstMisfit(kinds);
        if (misfit >= 0) {
            throw new Fault(1, misfit < tokens.size() ? tokens.get(misfit).at() : text.length);
        }
        while (at < tokens.size()) {
            readMethod();
        }
        lookOver();
        if (!broken.isEmpty()) {
            throw new Fault(2, broken.first());
        }
        workPolys();
        if (proved) {
            for (Method method : methods) {
                for (Block block : method.blocks) {
                    new Proof(this, block).check();
                }
            }
        }
    }

    private static boolean letter(int c) {
        return c >= 'a' && c <= 'z' || c >= 'A' && c <= 'Z';
    }

    private static boolean digit(int c) {
        return c >= '0' && c <= '9';
    }

    private static List<Token> scan(byte[] text) {
        List<Token> found = new ArrayList<>();
        int i = 0;
        while (i < text.length) {
            int c = text[i];
            int from = i;
            String kind;
            if (c == 10 || c == 32) {
                i++;
                continue;
            } else if (letter(c)) {
                while (i < text.length && (letter(text[i]) || digit(text[i]))) {
                    i++;
                }
                String word = new String(text, from, i - from, java.nio.charset.StandardCharsets.ISO_8859_1);
                kind = i - from > 8 ? "bad" : WORDS.contains(word) ? word : "name";
            } else if (digit(c)) {
                while (i < text.length && digit(text[i])) {
                    i++;
                }
                kind = i - from > 8 || i < text.length && letter(text[i]) ? "bad" : "number";
            } else {
                String two = i + 1 < text.length ? "" + (char) c + (char) text[i + 1] : "";
                if (Set.of("<=", ">=", "==", "!=").contains(two)) {
                    kind = two;
                    i += 2;
                } else {
                    kind = "(){}[],;:=<>+-*/%#^".indexOf(c) >= 0 ? "" + (char) c : "bad";
                    i++;
                }
            }
            found.add(new Token(kind, new String(text, from, i - from, java.nio.charset.StandardCharsets.ISO_8859_1),
                    from));
        }
        return found;
    }

    private boolean is(String kind) {
        return at < tokens.size() && tokens.get(at).kind().equals(kind);
    }

    private boolean took(String kind) {
        if (is(kind)) {
            at++;
            return true;
        }
        return false;
    }

    private Token need(String kind) {
        Token token = tokens.get(at);
        if (!token.kind().equals(kind)) {
            throw new IllegalStateException("oracle: " + token + " is no " + kind);
        }
        at++;
        return token;
    }

    private int here() {
        return tokens.get(at).at();
    }

    private void readMethod() {
        Method method = new Method();
        if (methods.size() == 12) {
            broken.add(here());
        }
        need("method");
        Token name = need("name");
        if (method(name.text()) != null) {
            broken.add(name.at());
        }
        method.name = name.text();
        methods.add(method);
        need("(");
        while (!took(")")) {
            Token param = need("name");
            if (method.params.size() == 3 || method.params.contains(param.text())) {
                broken.add(param.at());
            }
            method.params.add(param.text());
            took(",");
        }
        method.names.addAll(method.params);
        if (took("needs")) {
            readConds(method.needConds, method.params, false);
        }
        need("steps");
        method.stepsText = readPoly(method.params, false);
        need("cells");
        method.cellsText = readPoly(method.params, false);
        if (took("gives")) {
            readConds(method.giveConds, method.params, true);
        }
        need("{");
        if (took("var")) {
            do {
                Token local = need("name");
                if (method.names.size() == 6 || method.names.contains(local.text())) {
                    broken.add(local.at());
                }
                method.names.add(local.text());
            } while (took(","));
            need(";");
        }
        do {
            readBlock(method);
        } while (!took("}"));
    }

    private void readConds(List<Cond> conds, List<String> scope, boolean gives) {
        do {
            int place = here();
            if (conds.size() == 6) {
                broken.add(place);
            }
            Written left = readPoly(scope, gives);
            boolean atMost = took("<=");
            if (!atMost) {
                need(">=");
            }
            conds.add(new Cond(place, left, atMost, readPoly(scope, gives)));
        } while (took(","));
    }

    private Written readPoly(List<String> scope, boolean gives) {
        Written written = new Written(here(), new ArrayList<>());
        boolean minus = took("-");
        while (true) {
            if (written.monos().size() == 20) {
                broken.add(here());
            }
            Mono mono = new Mono(minus, new ArrayList<>());
            do {
                if (mono.factors().size() == 4) {
                    broken.add(here());
                }
                mono.factors().add(readFactor(scope, gives));
            } while (took("*"));
            written.monos().add(mono);
            if (took("-")) {
                minus = true;
            } else if (took("+")) {
                minus = false;
            } else {
                return written;
            }
        }
    }

    private Factor readFactor(List<String> scope, boolean gives) {
        if (is("number")) {
            return new Factor(null, Integer.parseInt(need("number").text()), 1);
        }
        Token token = tokens.get(at);
        at++;
        boolean there = token.kind().equals("result") ? gives : scope.contains(token.text());
        if (!there) {
            broken.add(token.at());
        }
        int power = 1;
        if (took("^")) {
            Token number = need("number");
            power = Integer.parseInt(number.text());
            if (power < 1 || power > 6) {
                broken.add(number.at());
            }
        }
        return new Factor(token.text(), 0, power);
    }

    private void readBlock(Method method) {
        Block block = new Block();
        block.method = method;
        Token name = need("name");
        block.at = name.at();
        block.name = name.text();
        if (method.blocks.size() == 20 || method.blocks.stream().anyMatch(b -> b.name.equals(block.name))) {
            broken.add(name.at());
        }
        if (!method.blocks.isEmpty()) {
            if (took("keeps")) {
                readConds(block.keepConds, method.names, false);
            }
            need("left");
            block.leftStepsText = readPoly(method.names, false);
            need(",");
            block.leftCellsText = readPoly(method.names, false);
        }
        method.blocks.add(block);
        need(":");
        while (is("name")) {
            readStatement(method, block);
        }
        readJump(method, block);
        if (is("by")) {
            block.by = here();
            need("by");
            need("{");
            do {
                readWitness(block);
            } while (took(";"));
            need("}");
        }
        blocks++;
    }

    private void readStatement(Method method, Block block) {
        Step step = new Step();
        step.at = here();
        if (block.steps.size() == 10) {
            broken.add(step.at);
        }
        block.steps.add(step);
        Token name = need("name");
        if (took("[")) {
            step.kind = "store";
            step.base = name.text();
            wantName(method, name);
            readAtom(method, step);
            need("]");
            need("=");
            readAtom(method, step);
            need(";");
            return;
        }
        need("=");
        step.target = name.text();
        if (method.params.contains(name.text()) || !method.names.contains(name.text())) {
            broken.add(name.at());
        }
        if (is("new") || is("len")) {
            step.kind = tokens.get(at).kind();
            at++;
            readAtom(method, step);
        } else if (took("read")) {
            step.kind = "read";
        } else if (is("name") && tokens.get(at + 1).kind().equals("(")) {
            step.kind = "call";
            step.goals.add(need("name").text());
            need("(");
            while (!took(")")) {
                readAtom(method, step);
                took(",");
            }
        } else if (is("name") && tokens.get(at + 1).kind().equals("[")) {
            step.kind = "load";
            Token base = need("name");
            wantName(method, base);
            step.base = base.text();
            need("[");
            readAtom(method, step);
            need("]");
        } else {
            readAtom(method, step);
            step.kind = "=";
            if (!is(";")) {
                step.kind = tokens.get(at).kind();
                at++;
                boolean divides = step.kind.equals("/") || step.kind.equals("%");
                if (divides && Integer.parseInt(tokens.get(at).text()) == 0) {
                    broken.add(here());
                }
                readAtom(method, step);
            }
        }
        need(";");
    }

    private void wantName(Method method, Token name) {
        if (!method.names.contains(name.text())) {
            broken.add(name.at());
        }
    }

    private void readAtom(Method method, Step step) {
        if (is("name")) {
            Token name = need("name");
            wantName(method, name);
            step.atoms.add(new Atom(name.text(), 0));
        } else {
            boolean minus = took("-");
            long number = Long.parseLong(need("number").text());
            step.atoms.add(new Atom(null, minus ? -number : number));
        }
    }

    private void readJump(Method method, Block block) {
        Step step = new Step();
        step.at = here();
        step.kind = tokens.get(at).kind();
        at++;
        block.jump = step;
        if (step.kind.equals("goto")) {
            step.goals.add(need("name").text());
        } else if (step.kind.equals("if")) {
            readAtom(method, step);
            step.relation = tokens.get(at).kind();
            at++;
            readAtom(method, step);
            need("goto");
            step.goals.add(need("name").text());
            need("else");
            step.goals.add(need("name").text());
        } else if (step.kind.equals("return")) {
            readAtom(method, step);
        }
        need(";");
    }

    private void readWitness(Block block) {
        Witness witness = new Witness();
        witness.at = here();
        witness.block = blocks;
        if (block.witnesses.size() == 40) {
            broken.add(witness.at);
        }
        block.witnesses.add(witness);
        witnesses.add(witness);
        if (is("number") && tokens.get(at + 1).kind().equals(":")) {
            witness.number = Long.parseLong(need("number").text());
            need(":");
        }
        do {
            if (witness.products.size() == 20) {
                broken.add(here());
            }
            long number = 1;
            List<Integer> hyps = new ArrayList<>();
            boolean more = true;
            if (is("number")) {
                number = Long.parseLong(need("number").text());
                more = took("*");
            }
            while (more) {
                if (hyps.size() == 4) {
                    broken.add(here());
                }
                need("#");
                hyps.add(Integer.parseInt(need("number").text()));
                more = took("*");
            }
            witness.products.add(new Product(number, hyps));
        } while (took("+"));
    }

    /** What can be seen only when all is read: by going through the tokens once more. */
    private void lookOver() {
        int methodIndex = -1;
        for (int i = 0; i < tokens.size(); i++) {
            String kind = tokens.get(i).kind();
            if (kind.equals("method")) {
                methodIndex++;
                i += 2;
            } else if (kind.equals("goto") || kind.equals("else")) {
                if (methods.get(methodIndex).block(tokens.get(i + 1).text()) == null) {
                    broken.add(tokens.get(i + 1).at());
                }
            } else if (kind.equals("name") && tokens.get(i + 1).kind().equals("(")) {
                int atoms = 0;
                for (int k = i + 2; !tokens.get(k).kind().equals(")"); k++) {
                    if (tokens.get(k).kind().equals("name") || tokens.get(k).kind().equals("number")) {
                        atoms++;
                    }
                }
                Method called = method(tokens.get(i).text());
                if (called == null || called.params.size() != atoms) {
                    broken.add(tokens.get(i).at());
                }
            }
        }
    }

    private void workPolys() {
        for (Method method : methods) {
            List<String> scope = new ArrayList<>(method.params);
            scope.add("result");
            workConds(method.needConds, scope, method.needs);
            method.steps = work(method.stepsText, scope);
            method.cells = work(method.cellsText, scope);
            workConds(method.giveConds, scope, method.gives);
            for (int b = 1; b < method.blocks.size(); b++) {
                Block block = method.blocks.get(b);
                workConds(block.keepConds, method.names, block.keeps);
                block.leftSteps = work(block.leftStepsText, method.names);
                block.leftCells = work(block.leftCellsText, method.names);
            }
        }
    }

    private static void workConds(List<Cond> conds, List<String> scope, List<Sum> out) {
        for (Cond cond : conds) {
            Sum left = work(cond.left(), scope);
            Sum right = work(cond.right(), scope);
            try {
                out.add(cond.atMost() ? right.minus(left) : left.minus(right));
            } catch (Sum.Big big) {
                throw new Fault(5, cond.at());
            }
        }
    }

    private static Sum work(Written written, List<String> scope) {
        try {
            Sum sum = Sum.of(0);
            for (Mono mono : written.monos()) {
                Sum one = Sum.of(1);
                for (Factor factor : mono.factors()) {
                    for (int k = 0; k < factor.power(); k++) {
                        one = one.times(factor.name() == null ? Sum.of(factor.number())
                                : Sum.symbol(scope.indexOf(factor.name())));
                    }
                }
                sum = mono.minus() ? sum.minus(one) : sum.plus(one);
            }
            return sum;
        } catch (Sum.Big big) {
            throw new Fault(5, written.at());
        }
    }
}
