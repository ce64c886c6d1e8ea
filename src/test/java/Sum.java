import java.math.BigInteger;
import java.util.Arrays;
import java.util.Comparator;
import java.util.List;
import java.util.Map;
import java.util.TreeMap;

/** A poly, in the plainest way: a map from sixteen powers to a coefficient, in ORDER. */
final class Sum {
    /** Something was TOO BIG. */
    static final class Big extends RuntimeException {
        private static final long serialVersionUID = 1;
    }

    private static final Comparator<int[]> ORDER = (x, y) -> {
        int sums = Integer.compare(Arrays.stream(y).sum(), Arrays.stream(x).sum());
        return sums != 0 ? sums : Arrays.compare(y, x);
    };

    final TreeMap<int[], BigInteger> terms = new TreeMap<>(ORDER);

    static Sum of(long number) {
        Sum sum = new Sum();
        sum.add(new int[16], BigInteger.valueOf(number));
        return sum;
    }

    static Sum symbol(int s) {
        int[] powers = new int[16];
        powers[s] = 1;
        Sum sum = new Sum();
        sum.add(powers, BigInteger.ONE);
        return sum;
    }

    private void add(int[] powers, BigInteger coef) {
        BigInteger now = terms.getOrDefault(powers, BigInteger.ZERO).add(coef);
        if (now.signum() == 0) {
            terms.remove(powers);
        } else {
            terms.put(powers, now);
        }
    }

    private Sum looked() {
        if (terms.size() > 60) {
            throw new Big();
        }
        for (BigInteger coef : terms.values()) {
            if (coef.abs().compareTo(BigInteger.valueOf(99_999_999)) > 0) {
                throw new Big();
            }
        }
        return this;
    }

    Sum plus(Sum other) {
        Sum sum = new Sum();
        terms.forEach(sum::add);
        other.terms.forEach(sum::add);
        return sum.looked();
    }

    Sum minus(Sum other) {
        Sum sum = new Sum();
        terms.forEach(sum::add);
        other.terms.forEach((powers, coef) -> sum.add(powers, coef.negate()));
        return sum.looked();
    }

    Sum times(Sum other) {
        Sum sum = new Sum();
        for (Map.Entry<int[], BigInteger> x : terms.entrySet()) {
            for (Map.Entry<int[], BigInteger> y : other.terms.entrySet()) {
                int[] powers = new int[16];
                for (int s = 0; s < 16; s++) {
                    powers[s] = x.getKey()[s] + y.getKey()[s];
                    if (powers[s] > 9) {
                        throw new Big();
                    }
                }
                sum.add(powers, x.getValue().multiply(y.getValue()));
            }
        }
        return sum.looked();
    }

    Sum put(List<Sum> values) {
        Sum all = new Sum();
        for (Map.Entry<int[], BigInteger> x : terms.entrySet()) {
            Sum one = of(x.getValue().longValueExact());
            for (int s = 0; s < 16; s++) {
                for (int k = 0; k < x.getKey()[s]; k++) {
                    one = one.times(values.get(s));
                }
            }
            all = all.plus(one);
        }
        return all;
    }

    boolean like(Sum other) {
        return minusFree(other).terms.isEmpty();
    }

    private Sum minusFree(Sum other) {
        Sum sum = new Sum();
        terms.forEach(sum::add);
        other.terms.forEach((powers, coef) -> sum.add(powers, coef.negate()));
        return sum;
    }

    /** With longs; null when it goes beyond 64 bits on the way. */
    Long worth(List<Long> values) {
        try {
            long sum = 0;
            for (Map.Entry<int[], BigInteger> x : terms.entrySet()) {
                long one = x.getValue().longValueExact();
                for (int s = 0; s < 16; s++) {
                    for (int k = 0; k < x.getKey()[s]; k++) {
                        one = Math.multiplyExact(one, (long) values.get(s));
                    }
                }
                sum = Math.addExact(sum, one);
            }
            return sum;
        } catch (ArithmeticException beyond) {
            return null;
        }
    }

    BigInteger exact(List<Long> values) {
        BigInteger sum = BigInteger.ZERO;
        for (Map.Entry<int[], BigInteger> x : terms.entrySet()) {
            BigInteger one = x.getValue();
            for (int s = 0; s < 16; s++) {
                for (int k = 0; k < x.getKey()[s]; k++) {
                    one = one.multiply(BigInteger.valueOf(values.get(s)));
                }
            }
            sum = sum.add(one);
        }
        return sum;
    }
}
