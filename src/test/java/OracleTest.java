import java.util.ArrayList;
import java.util.Arrays;
import java.util.List;
import java.util.Map;

/** Many texts, changed and new ones, judged and run by the class and by the oracle: all answers must be alike. */
public final class OracleTest {
    private static final int[] FAULTS = new int[6];
    private static final int[] ENDS = new int[4];
    private static final int[] WHYS = new int[7];
    private static int runs = 0;
    private static final BoundHouse OLD_HOUSE = new BoundHouse();
    /** The latest text that the old house took, and its run. */
    private static Oracle taken = null;
    private static Trial takenRun = null;

    public static void main(String[] args) {
        int many = args.length > 0 ? Integer.parseInt(args[0]) : 3000;
        long seed = args.length > 1 ? Long.parseLong(args[1]) : 1;
        String[] seeds = {Texts.LOOP, Texts.RECURSION, Texts.HALVES, Texts.ARRAYS, Texts.FILL, Texts.PARITY};
        Maker maker = new Maker(seed);
        for (int turn = 0; turn < many && Kit.wrongs() < 20; turn++) {
            String base = turn % 2 == 0 ? seeds[turn / 2 % seeds.length] : maker.fresh();
            compare(base, maker);
            compare(maker.changed(base), maker);
            compare(maker.changed(base), maker);
            compareInOneHouse(turn % 3 == 0 ? base : maker.changed(base));
            if (turn % 8 == 0) {
                lookOver(maker.changed(base), new long[] {input(maker), input(maker), input(maker)});
            }
        }
        lookOverHighNumbers();
        lookOverLowBounds();
        System.out.println("faults 0 .. 5: " + Arrays.toString(FAULTS) + ", ends 0 .. 3: "
                + Arrays.toString(ENDS) + ", whys: " + Arrays.toString(WHYS) + ", runs with overs: "
                + runs);
        Kit.end();
    }

    private static void due(String text, String call, long got, long want) {
        if (got != want) {
            Kit.note(call + " answered " + got + ", due is " + want + ", of\n" + text);
        }
    }

    private static void compare(String text, Maker maker) {
        if (text.length() > 4000) {
            return;
        }
        Oracle oracle = new Oracle(Kit.bytes(text), true);
        FAULTS[oracle.fault]++;
        BoundHouse house = new BoundHouse();
        due(text, "judge", Kit.judge(house, text), oracle.fault);
        due(text, "fault(0)", house.fault(0), oracle.fault);
        due(text, "fault(1)", house.fault(1), oracle.place);
        if (oracle.fault != 0) {
            due(text, "count(0)", house.count(0), 0);
            return;
        }
        compareProofs(text, house, oracle);
        due(text, "about ahead of a run", house.about(0), -1);
        due(text, "overs ahead of a run", house.overs(), 0);
        List<Long> given = new ArrayList<>();
        for (int turn = 0; turn < 4; turn++) {
            long value = maker.below(4) == 0 ? Long.MIN_VALUE + maker.below(2) : maker.below(20) - 5;
            given.add(value);
            due(text, "give", house.give(value), given.size());
            for (int m = -1; m <= oracle.methods.size(); m++) {
                compareRun(text, house, oracle, maker, given, m);
            }
        }
    }

    /** Judges text behind text: nothing of one may be left for the next, but the program and its run. */
    private static void compareInOneHouse(String text) {
        if (text.length() > 4000) {
            return;
        }
        Oracle oracle = new Oracle(Kit.bytes(text), true);
        due(text, "judge, of many", Kit.judge(OLD_HOUSE, text), oracle.fault);
        due(text, "fault(0), of many", OLD_HOUSE.fault(0), oracle.fault);
        due(text, "fault(1), of many", OLD_HOUSE.fault(1), oracle.place);
        if (oracle.fault == 0) {
            taken = oracle;
            takenRun = null;
            due(text, "about ahead of a run, of many", OLD_HOUSE.about(0), -1);
            due(text, "result ahead of a run, of many", OLD_HOUSE.result(), 0);
            due(text, "overs ahead of a run, of many", OLD_HOUSE.overs(), 0);
        }
        if (taken != null) {
            compareProofs(text, OLD_HOUSE, taken);
        }
        if (takenRun != null) {
            compareFacts(text, "run, of many", OLD_HOUSE, takenRun);
        } else if (oracle.fault == 0 && !oracle.methods.isEmpty()) {
            Trial trial = new Trial(oracle, 0, new long[] {3, 4, 5}, List.of(), true);
            due(text, "run, of many", OLD_HOUSE.run(0, 3, 4, 5), trial.meets ? trial.end : -1);
            takenRun = trial.meets ? trial : null;
        }
    }

    private static void compareProofs(String text, BoundHouse house, Oracle oracle) {
        int products = 0;
        for (int i = 0; i < oracle.witnesses.size(); i++) {
            Oracle.Witness witness = oracle.witnesses.get(i);
            products += witness.products.size();
            long[] want = {witness.at, witness.block, witness.hyps, witness.shown.terms.size(), witness.number,
                witness.products.size(), -1};
            for (int what = 0; what < want.length; what++) {
                due(text, "shown(" + i + ", " + what + ")", house.shown(i, what), want[what]);
            }
            int k = 0;
            for (Map.Entry<int[], java.math.BigInteger> term : witness.shown.terms.entrySet()) {
                due(text, "term(" + i + ", " + k + ", -1)", house.term(i, k, -1), term.getValue().longValueExact());
                for (int s = 0; s < 16; s++) {
                    due(text, "term(" + i + ", " + k + ", " + s + ")", house.term(i, k, s), term.getKey()[s]);
                }
                k++;
            }
            due(text, "term behind the last", house.term(i, k, -1), 0);
        }
        long[] counts = {oracle.methods.size(), oracle.blocks, oracle.witnesses.size(), products, -1};
        for (int what = 0; what < counts.length; what++) {
            due(text, "count(" + what + ")", house.count(what), counts[what]);
        }
        due(text, "shown behind the last", house.shown(oracle.witnesses.size(), 0), -1);
    }

    private static int input(Maker maker) {
        switch (maker.below(8)) {
            case 0:
                return maker.below(2) == 0 ? Integer.MAX_VALUE : Integer.MIN_VALUE;
            case 1:
                return -1 - maker.below(5);
            case 2:
                return maker.below(6000);
            default:
                return maker.below(30);
        }
    }

    private static void compareRun(String text, BoundHouse house, Oracle oracle, Maker maker, List<Long> given, int m) {
        int a = input(maker);
        int b = input(maker);
        int c = input(maker);
        String call = "run(" + m + ", " + a + ", " + b + ", " + c + ")";
        if (m < 0 || m >= oracle.methods.size()) {
            due(text, call, house.run(m, a, b, c), -1);
            due(text, "bound of no method", house.bound(m, 0, a, b, c), -1);
            return;
        }
        Trial trial = new Trial(oracle, m, new long[] {a, b, c}, given, true);
        compareBounds(text, house, oracle.methods.get(m), trial.meets, new int[] {m, a, b, c});
        if (!trial.meets) {
            ENDS[3]++;
            due(text, call, house.run(m, a, b, c), -1);
            return;
        }
        ENDS[trial.end]++;
        due(text, call, house.run(m, a, b, c), trial.end);
        compareFacts(text, call, house, trial);
        due(text, "overs() behind " + call, house.overs(), trial.overs);
        due(text, "exact overs behind " + call, trial.overs, 0);
        compareFacts(text, call + ", overs()", house, trial);
    }

    private static void compareBounds(String text, BoundHouse house, Oracle.Method method, boolean meets, int[] call) {
        List<Long> params = new ArrayList<>();
        for (int k = 0; k < method.params.size(); k++) {
            params.add((long) call[k + 1]);
        }
        for (int what = -1; what < 3; what++) {
            Long want = what == 0 ? method.steps.worth(params) : what == 1 ? method.cells.worth(params) : null;
            due(text, "bound " + what + " of " + Arrays.toString(call),
                    house.bound(call[0], what, call[1], call[2], call[3]), meets && want != null ? want : -1);
        }
    }

    private static void compareFacts(String text, String call, BoundHouse house, Trial trial) {
        if (trial.why > 0) {
            WHYS[trial.why]++;
        }
        long[] want = {trial.end, trial.steps, trial.cells, trial.calls, trial.mostOpen, trial.place, trial.why,
            trial.arrays.size(), trial.reads, -1};
        for (int what = 0; what < want.length; what++) {
            due(text, "about(" + what + ") behind " + call, house.about(what), want[what]);
        }
        due(text, "result() behind " + call, house.result(), trial.result);
        for (int k = 0; k < trial.arrays.size() && k < 20; k++) {
            long[] array = trial.arrays.get(k);
            for (int i = 0; i < array.length && i < 40; i++) {
                due(text, "cell(" + (k + 1) + ", " + i + ") behind " + call, house.cell(k + 1, i), array[i]);
            }
            due(text, "cell behind the last", house.cell(k + 1, array.length), 0);
        }
    }

    /** Runs what is not proved, so that there is something for the audit to find. */
    private static void lookOver(String text, long[]... inputs) {
        byte[] bytes = Kit.bytes(text);
        Oracle oracle = new Oracle(bytes, false);
        if (oracle.fault != 0) {
            return;
        }
        BoundHouse.Algebra algebra = new BoundHouse.Algebra();
        BoundHouse.Tokens tokens = new BoundHouse.Tokens();
        tokens.scan(bytes, bytes.length);
        BoundHouse.Reader reader = new BoundHouse.Reader(tokens, algebra);
        BoundHouse.Program program = new BoundHouse.Program();
        reader.read(program);
        BoundHouse.Machine machine = new BoundHouse.Machine();
        BoundHouse.Audit audit = new BoundHouse.Audit(algebra);
        long[] given = {5, Long.MAX_VALUE, -3};
        for (long[] three : inputs) {
            for (int m = 0; m < oracle.methods.size(); m++) {
                Trial trial = new Trial(oracle, m, three, List.of(5L, Long.MAX_VALUE, -3L), false);
                machine.go(program, m, three, given, 3, audit);
                due(text, "audit of " + m + " with " + Arrays.toString(three), audit.found, trial.overs);
                runs += trial.overs > 0 ? 1 : 0;
            }
        }
    }

    /** What is told goes far beyond 64 bits, and comes back. */
    private static void lookOverHighNumbers() {
        String text = "method f(n,m) needs n^6*m^6 - n^3*m^3*n^3*m^3 >= 0, n^3 - m^3 >= 0 steps n^6 - m^6 + 2 cells 0"
                + " gives result^6*n^6 >= 0, result^5*n^6 - result^3*n^4*m^4 >= 0 { var x; a: x = read; goto b;"
                + " b keeps n^4 - m^4 >= 0, n^6*m^6*x^6*x^3 + 1 >= 0, x^3 - 8*x >= 0"
                + " left n^3*m^3 - n^6 + 1, n^6*m^6*n^3: x = n * m; goto c;"
                + " c left 1 + n^5*m - n^6 + m^6 - n*m^5, x^2 - n^2*m^2: x = read; return x; }";
        long[] values = {0, 1, -1, 2, 3037000499L, Integer.MAX_VALUE, Integer.MIN_VALUE, Integer.MAX_VALUE - 1,
            Integer.MIN_VALUE + 1, Long.MAX_VALUE, Long.MIN_VALUE, Long.MIN_VALUE + 1};
        // (n - m)^4 - 1 and its like: 0 or below 0 only where n and m are near
        String near = "method g(n,m,k) needs n^4 + 6*n^2*m^2 + m^4 - 4*n^3*m - 4*n*m^3 - 1 >= 0, n >= k steps 9 cells 9"
                + " gives k^3 + 3*k*n^2 - 3*k^2*n - n^3 <= 0, result^5 >= k^5, k^4*result >= n { var x; a: goto b;"
                + " b keeps 2*n^4 + 2*m^4 + 12*n^2*m^2 - 8*n^3*m - 8*n*m^3 - 3 >= 0 left 3, 0: return m; }";
        for (long n : values) {
            for (long m : values) {
                lookOver(text, new long[] {n, m, 0});
                lookOver(near, new long[] {n, m, m}, new long[] {n, n - 1, n + 1}, new long[] {n, n + 2, m});
            }
        }
    }

    /** Bounds that are too low here and there, in calls in calls and block behind block. */
    private static void lookOverLowBounds() {
        String[] texts = {Texts.RECURSION.replace("6*n + 4", "6*n - 9"), Texts.RECURSION.replace("6*n + 4", "30"),
            Texts.RECURSION.replace("left 6*n + 2", "left 5*n - 20"), Texts.RECURSION.replace("result >= 0", "result >= 9"),
            Texts.RECURSION.replace("needs n >= 0", "needs n >= 4"), Texts.RECURSION.replace("n - 1 >= 0", "n >= 3"),
            Texts.LOOP.replace("5*n + 4", "20"), Texts.LOOP.replace("5*n - 5*i + 2", "2*n - 3*i"),
            Texts.LOOP.replace("keeps i >= 0, n", "keeps i >= 3, n"), Texts.ARRAYS.replace("cells u + w + 2", "cells u"),
            Texts.ARRAYS.replace("cells z + 1", "cells 3"), Texts.ARRAYS.replace("3*z + 4", "z"),
            Texts.FILL.replace("cells n + 1", "cells 4"), Texts.FILL.replace("left 3, 0", "left 3, -1")};
        for (String text : texts) {
            for (long n = -1; n < 12; n++) {
                lookOver(text, new long[] {n, 2 * n, 1}, new long[] {5 * n, 300 * n, 1});
            }
            lookOver(text, new long[] {7000, 70000, 0});
        }
    }
}
