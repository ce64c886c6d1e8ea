import java.util.ArrayList;
import java.util.HashMap;
import java.util.List;
import java.util.Map;

/** Checks the proof of one block in the plainest way. */
final class Proof {
    private final Oracle oracle;
    private final Oracle.Block block;
    private final Oracle.Method method;
    private final Map<String, Sum> values = new HashMap<>();
    private final List<Sum> hyps = new ArrayList<>();
    private Sum steps;
    private Sum cells;
    private int next = 0;

    Proof(Oracle oracle, Oracle.Block block) {
        this.oracle = oracle;
        this.block = block;
        this.method = block.method;
    }

    /** What is worked at a place is TOO BIG there. */
    private interface Work {
        Sum worked();
    }

    private static Sum at(int place, Work work) {
        try {
            return work.worked();
        } catch (Sum.Big big) {
            throw new Oracle.Fault(5, place);
        }
    }

    void check() {
        if (wanted() != block.witnesses.size()) {
            throw new Oracle.Fault(3, block.by >= 0 ? block.by : block.at);
        }
        boolean first = method.blocks.get(0) == block;
        for (int k = 0; k < method.names.size(); k++) {
            boolean zero = first && k >= method.params.size();
            values.put(method.names.get(k), zero ? Sum.of(0) : Sum.symbol(k));
        }
        hyps.addAll(method.needs);
        hyps.addAll(block.keeps);
        steps = first ? method.steps : block.leftSteps;
        cells = first ? method.cells : block.leftCells;
        steps = at(block.at, () -> steps.minus(Sum.of(block.steps.size())).minus(Sum.of(1)));
        show(steps);
        show(cells);
        for (int i = 0; i < block.steps.size(); i++) {
            statement(block.steps.get(i), Sum.symbol(6 + i));
        }
        jump(block.jump);
    }

    int wanted() {
        int wanted = 2;
        for (Oracle.Step step : block.steps) {
            if (step.kind.equals("new")) {
                wanted += 1;
            }
            if (step.kind.equals("call")) {
                wanted += oracle.method(step.goals.get(0)).needs.size() + 2;
            }
        }
        if (block.jump.kind.equals("return")) {
            return wanted + method.gives.size();
        }
        for (String goal : block.jump.goals) {
            wanted += method.block(goal).keeps.size() + 2;
        }
        return wanted;
    }

    private void show(Sum poly) {
        Oracle.Witness witness = block.witnesses.get(next);
        next++;
        witness.shown = poly;
        witness.hyps = hyps.size();
        witness.known = new ArrayList<>(hyps);
        boolean missing = witness.number == 0;
        for (Oracle.Product product : witness.products) {
            for (int hyp : product.hyps()) {
                missing = missing || hyp >= hyps.size();
            }
        }
        if (missing) {
            throw new Oracle.Fault(4, witness.at);
        }
        Sum many = at(witness.at, () -> poly.times(Sum.of(witness.number)));
        Sum sum = at(witness.at, () -> {
            Sum all = Sum.of(0);
            for (Oracle.Product product : witness.products) {
                Sum one = Sum.of(product.number());
                for (int hyp : product.hyps()) {
                    one = one.times(hyps.get(hyp));
                }
                all = all.plus(one);
            }
            return all;
        });
        if (!many.like(sum)) {
            throw new Oracle.Fault(4, witness.at);
        }
    }

    private Sum value(Oracle.Atom atom) {
        return atom.name() == null ? Sum.of(atom.number()) : values.get(atom.name());
    }

    private void statement(Oracle.Step step, Sum u) {
        int p = step.at;
        Sum a = step.atoms.size() > 0 ? value(step.atoms.get(0)) : null;
        Sum b = step.atoms.size() > 1 ? value(step.atoms.get(1)) : null;
        Sum one = Sum.of(1);
        Sum out = u;
        switch (step.kind) {
            case "=" -> out = a;
            case "+" -> out = at(p, () -> a.plus(b));
            case "-" -> out = at(p, () -> a.minus(b));
            case "*" -> out = at(p, () -> a.times(b));
            case "/" -> {
                hyps.add(at(p, () -> a.minus(b.times(u))));
                hyps.add(at(p, () -> b.times(u).plus(b).minus(one).minus(a)));
            }
            case "%" -> {
                hyps.add(u);
                hyps.add(at(p, () -> b.minus(one).minus(u)));
            }
            case "new" -> {
                hyps.add(a);
                cells = at(p, () -> cells.minus(a.plus(one)));
                show(cells);
                hyps.add(u.minus(one));
            }
            case "len" -> hyps.add(u);
            case "load", "store" -> hyps.add(a);
            case "call" -> call(step, u);
            default -> {
            }
        }
        if (step.target != null) {
            values.put(step.target, out);
        }
    }

    private void call(Oracle.Step step, Sum u) {
        Oracle.Method called = oracle.method(step.goals.get(0));
        List<Sum> inputs = new ArrayList<>();
        for (Oracle.Atom atom : step.atoms) {
            inputs.add(value(atom));
        }
        inputs.add(u);
        for (Sum need : called.needs) {
            show(at(step.at, () -> need.put(inputs)));
        }
        steps = at(step.at, () -> steps.minus(called.steps.put(inputs)));
        show(steps);
        cells = at(step.at, () -> cells.minus(called.cells.put(inputs)));
        show(cells);
        for (Sum give : called.gives) {
            hyps.add(at(step.at, () -> give.put(inputs)));
        }
    }

    private void jump(Oracle.Step jump) {
        switch (jump.kind) {
            case "goto" -> to(jump, 0);
            case "if" -> {
                int before = hyps.size();
                tells(jump, jump.relation);
                to(jump, 0);
                while (hyps.size() > before) {
                    hyps.remove(hyps.size() - 1);
                }
                tells(jump, Map.of("<", ">=", "<=", ">", ">", "<=", ">=", "<", "==", "!=", "!=", "==")
                        .get(jump.relation));
                to(jump, 1);
            }
            case "return" -> {
                List<Sum> inputs = new ArrayList<>();
                for (int k = 0; k < method.params.size(); k++) {
                    inputs.add(Sum.symbol(k));
                }
                inputs.add(value(jump.atoms.get(0)));
                for (Sum give : method.gives) {
                    show(at(jump.at, () -> give.put(inputs)));
                }
            }
            default -> {
            }
        }
    }

    private void tells(Oracle.Step jump, String relation) {
        Sum a = value(jump.atoms.get(0));
        Sum b = value(jump.atoms.get(1));
        Sum one = Sum.of(1);
        switch (relation) {
            case "<" -> hyps.add(at(jump.at, () -> b.minus(a).minus(one)));
            case "<=" -> hyps.add(at(jump.at, () -> b.minus(a)));
            case ">" -> hyps.add(at(jump.at, () -> a.minus(b).minus(one)));
            case ">=" -> hyps.add(at(jump.at, () -> a.minus(b)));
            case "==" -> {
                hyps.add(at(jump.at, () -> a.minus(b)));
                hyps.add(at(jump.at, () -> b.minus(a)));
            }
            default -> {
            }
        }
    }

    private void to(Oracle.Step jump, int k) {
        Oracle.Block goal = method.block(jump.goals.get(k));
        List<Sum> now = new ArrayList<>();
        for (String name : method.names) {
            now.add(values.get(name));
        }
        for (Sum keep : goal.keeps) {
            show(at(jump.at, () -> keep.put(now)));
        }
        show(at(jump.at, () -> steps.minus(goal.leftSteps.put(now))));
        show(at(jump.at, () -> cells.minus(goal.leftCells.put(now))));
    }
}
