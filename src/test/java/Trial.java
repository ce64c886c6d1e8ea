import java.math.BigInteger;
import java.util.ArrayList;
import java.util.HashMap;
import java.util.List;
import java.util.Map;

/** Runs a method of a text that the oracle read, in the plainest way, and looks it over as it goes. */
final class Trial {
    private static final class Ended extends RuntimeException {
        private static final long serialVersionUID = 1;
    }

    /** Told when a call or a block begins: what may be used until the call's end. */
    private static final class Claim {
        boolean wrong;
        BigInteger steps;
        BigInteger cells;
    }

    final boolean meets;
    int end = 0;
    int steps = 0;
    int cells = 0;
    int calls = 0;
    int mostOpen = 0;
    int place = -1;
    int why = -1;
    int reads = 0;
    long result = 0;
    int overs = 0;
    final List<long[]> arrays = new ArrayList<>();

    private final Oracle oracle;
    private final List<Long> given;

    Trial(Oracle oracle, int m, long[] inputs, List<Long> given, boolean look) {
        this.oracle = oracle;
        this.given = given;
        Oracle.Method method = oracle.methods.get(m);
        List<Long> params = new ArrayList<>();
        for (int k = 0; k < method.params.size(); k++) {
            params.add(inputs[k]);
        }
        boolean met = true;
        for (Sum need : method.needs) {
            Long worth = need.worth(params);
            met = met && worth != null && worth >= 0;
        }
        meets = met || !look;
        if (meets) {
            try {
                result = call(method, params, 1);
            } catch (Ended ended) {
                result = 0;
            }
        }
    }

    private void stop(int how, int reason, Oracle.Step step) {
        end = how;
        if (how == 1) {
            why = reason;
            place = step.at;
        }
        throw new Ended();
    }

    private void count() {
        if (steps == 20_000) {
            stop(2, 0, null);
        }
        steps++;
    }

    private Claim claim(List<Sum> conds, Sum stepBound, Sum cellBound, List<Long> values) {
        Claim claim = new Claim();
        for (Sum cond : conds) {
            claim.wrong |= cond.exact(values).signum() < 0;
        }
        claim.steps = stepBound.exact(values).add(BigInteger.valueOf(steps));
        claim.cells = cellBound.exact(values).add(BigInteger.valueOf(cells));
        return claim;
    }

    private long call(Oracle.Method method, List<Long> params, int open) {
        calls++;
        mostOpen = Math.max(mostOpen, open);
        List<Claim> claims = new ArrayList<>();
        claims.add(claim(method.needs, method.steps, method.cells, params));
        try {
            long value = body(method, params, open, claims);
            List<Long> all = new ArrayList<>(params);
            all.add(value);
            for (Sum give : method.gives) {
                claims.get(0).wrong |= give.exact(all).signum() < 0;
            }
            return value;
        } finally {
            for (Claim claim : claims) {
                if (claim.wrong || claim.steps.compareTo(BigInteger.valueOf(steps)) < 0
                        || claim.cells.compareTo(BigInteger.valueOf(cells)) < 0) {
                    overs++;
                }
            }
        }
    }

    private long body(Oracle.Method method, List<Long> params, int open, List<Claim> claims) {
        Map<String, Long> values = new HashMap<>();
        for (int k = 0; k < method.names.size(); k++) {
            values.put(method.names.get(k), k < params.size() ? params.get(k) : 0);
        }
        Oracle.Block block = method.blocks.get(0);
        while (true) {
            for (Oracle.Step step : block.steps) {
                count();
                statement(step, values, open);
            }
            count();
            Oracle.Step jump = block.jump;
            if (jump.kind.equals("fail")) {
                stop(1, 1, jump);
            }
            if (jump.kind.equals("return")) {
                return value(jump.atoms.get(0), values);
            }
            int goal = jump.kind.equals("goto") || holds(jump, values) ? 0 : 1;
            block = method.block(jump.goals.get(goal));
            List<Long> now = new ArrayList<>();
            for (String name : method.names) {
                now.add(values.get(name));
            }
            claims.add(claim(block.keeps, block.leftSteps, block.leftCells, now));
        }
    }

    private static long value(Oracle.Atom atom, Map<String, Long> values) {
        return atom.name() == null ? atom.number() : values.get(atom.name());
    }

    private static boolean holds(Oracle.Step jump, Map<String, Long> values) {
        int order = Long.compare(value(jump.atoms.get(0), values), value(jump.atoms.get(1), values));
        return switch (jump.relation) {
            case "<" -> order < 0;
            case "<=" -> order <= 0;
            case ">" -> order > 0;
            case ">=" -> order >= 0;
            case "==" -> order == 0;
            default -> order != 0;
        };
    }

    private long fits(BigInteger value, Oracle.Step step) {
        if (value.bitLength() > 63) {
            stop(1, 2, step);
        }
        return value.longValueExact();
    }

    private long[] array(long k, Oracle.Step step) {
        if (k < 1 || k > arrays.size()) {
            stop(1, 3, step);
        }
        return arrays.get((int) k - 1);
    }

    private int index(long i, long[] array, Oracle.Step step) {
        if (i < 0 || i >= array.length) {
            stop(1, 4, step);
        }
        return (int) i;
    }

    private void statement(Oracle.Step step, Map<String, Long> values, int open) {
        long a = step.atoms.size() > 0 ? value(step.atoms.get(0), values) : 0;
        long b = step.atoms.size() > 1 ? value(step.atoms.get(1), values) : 0;
        BigInteger x = BigInteger.valueOf(a);
        BigInteger y = BigInteger.valueOf(b);
        long out = 0;
        switch (step.kind) {
            case "=" -> out = a;
            case "+" -> out = fits(x.add(y), step);
            case "-" -> out = fits(x.subtract(y), step);
            case "*" -> out = fits(x.multiply(y), step);
            case "%" -> out = x.mod(y).longValueExact();
            case "/" -> out = x.subtract(x.mod(y)).divide(y).longValueExact();
            case "read" -> {
                out = reads < given.size() ? given.get(reads) : 0;
                reads++;
            }
            case "len" -> out = array(a, step).length;
            case "new" -> {
                if (a < 0 || x.add(BigInteger.valueOf(cells + 1L)).compareTo(BigInteger.valueOf(5000)) > 0) {
                    stop(1, 5, step);
                }
                arrays.add(new long[(int) a]);
                cells += (int) a + 1;
                out = arrays.size();
            }
            case "load" -> {
                long[] array = array(values.get(step.base), step);
                out = array[index(a, array, step)];
            }
            case "store" -> {
                long[] array = array(values.get(step.base), step);
                array[index(a, array, step)] = b;
            }
            default -> {
                if (open == 30) {
                    stop(1, 6, step);
                }
                List<Long> params = new ArrayList<>();
                for (Oracle.Atom atom : step.atoms) {
                    params.add(value(atom, values));
                }
                out = call(oracle.method(step.goals.get(0)), params, open + 1);
            }
        }
        if (step.target != null) {
            values.put(step.target, out);
        }
    }
}
