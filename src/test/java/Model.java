import java.util.ArrayList;
import java.util.Arrays;
import java.util.List;
import java.util.Map;

/** All calls of the class, answered by the oracle. */
final class Model {
    private byte[] text = new byte[0];
    private final List<Long> given = new ArrayList<>();
    private Oracle judged = null;
    private Oracle program = null;
    private Trial latest = null;

    int feed(int... numbers) {
        if (text.length + 20 > 4000) {
            return -1;
        }
        int at = text.length;
        text = Arrays.copyOf(text, at + 20);
        for (int number : numbers) {
            for (int shift = 24; shift >= 0; shift -= 8) {
                text[at] = (byte) (number >>> shift);
                at++;
            }
        }
        return at;
    }

    int judge(int n) {
        if (n < 0 || n > text.length) {
            return -1;
        }
        judged = new Oracle(Arrays.copyOf(text, n), true);
        text = new byte[0];
        if (judged.fault == 0) {
            program = judged;
            latest = null;
        }
        return judged.fault;
    }

    int fault(int what) {
        if (judged == null || what < 0 || what > 1) {
            return -1;
        }
        return what == 0 ? judged.fault : judged.fault == 0 ? -1 : judged.place;
    }

    int give(long v) {
        if (given.size() == 200) {
            return -1;
        }
        given.add(v);
        return given.size();
    }

    private boolean has(int m) {
        return program != null && m >= 0 && m < program.methods.size();
    }

    int run(int m, int a, int b, int c) {
        if (!has(m)) {
            return -1;
        }
        Trial trial = new Trial(program, m, new long[] {a, b, c}, new ArrayList<>(given), true);
        if (!trial.meets) {
            return -1;
        }
        latest = trial;
        return trial.end;
    }

    int about(int what) {
        if (latest == null || what < 0 || what > 8) {
            return -1;
        }
        int[] all = {latest.end, latest.steps, latest.cells, latest.calls, latest.mostOpen, latest.place, latest.why,
            latest.arrays.size(), latest.reads};
        return all[what];
    }

    long result() {
        return latest == null ? 0 : latest.result;
    }

    long cell(int k, int i) {
        if (latest == null || k < 1 || k > latest.arrays.size() || i < 0 || i >= latest.arrays.get(k - 1).length) {
            return 0;
        }
        return latest.arrays.get(k - 1)[i];
    }

    long bound(int m, int what, int a, int b, int c) {
        if (!has(m) || what < 0 || what > 1) {
            return -1;
        }
        Oracle.Method method = program.methods.get(m);
        List<Long> params = List.of((long) a, (long) b, (long) c).subList(0, method.params.size());
        for (Sum need : method.needs) {
            Long worth = need.worth(params);
            if (worth == null || worth < 0) {
                return -1;
            }
        }
        Long worth = (what == 0 ? method.steps : method.cells).worth(params);
        return worth == null ? -1 : worth;
    }

    int count(int what) {
        if (what < 0 || what > 3) {
            return -1;
        }
        if (program == null) {
            return 0;
        }
        int products = 0;
        for (Oracle.Witness witness : program.witnesses) {
            products += witness.products.size();
        }
        return new int[] {program.methods.size(), program.blocks, program.witnesses.size(), products}[what];
    }

    int shown(int i, int what) {
        if (program == null || i < 0 || i >= program.witnesses.size() || what < 0 || what > 5) {
            return -1;
        }
        Oracle.Witness witness = program.witnesses.get(i);
        return new int[] {witness.at, witness.block, witness.hyps, witness.shown.terms.size(), (int) witness.number,
            witness.products.size()}[what];
    }

    int term(int i, int k, int what) {
        if (program == null || i < 0 || i >= program.witnesses.size() || what < -1 || what > 15 || k < 0) {
            return 0;
        }
        int at = 0;
        for (Map.Entry<int[], java.math.BigInteger> term : program.witnesses.get(i).shown.terms.entrySet()) {
            if (at == k) {
                return what < 0 ? term.getValue().intValueExact() : term.getKey()[what];
            }
            at++;
        }
        return 0;
    }

    int overs() {
        return latest == null ? 0 : latest.overs;
    }
}
