import java.util.ArrayList;
import java.util.Arrays;

/**
 * A house for programs that carry proofs of what they use. A text is fed, judged (read, looked over,
 * and its proof checked), and what is taken runs on a machine that counts.
 */
public final class BoundHouse {
    public static final int NONE = -1;

    private static final int TEXT_LIMIT = 4000;
    private static final int GIVEN_LIMIT = 200;

    private final byte[] text = new byte[TEXT_LIMIT];
    private final long[] given = new long[GIVEN_LIMIT];
    private final long[] inputs = new long[3];
    private final Algebra algebra = new Algebra();
    private final Tokens tokens = new Tokens();
    private final Reader reader = new Reader(tokens, algebra);
    private final Prover prover = new Prover(algebra);
    private final Machine machine = new Machine();
    private Program program = new Program();
    private int textSize = 0;
    private int givenSize = 0;
    private int faultKind = NONE;
    private int faultPlace = NONE;
    private boolean ran = false;
    private int ranMethod = 0;
    private int ranGiven = 0;
    private final long[] ranInputs = new long[3];
    private Audit audit = null;
    private int oversFound = NONE;

    public BoundHouse() {
    }

    public int feed(int a, int b, int c, int d, int e) {
        if (textSize + 20 > TEXT_LIMIT) {
            return NONE;
        }
        putBytes(a);
        putBytes(b);
        putBytes(c);
        putBytes(d);
        putBytes(e);
        return textSize;
    }

    public int judge(int n) {
        if (n < 0 || n > textSize) {
            return NONE;
        }
        textSize = 0;
        tokens.scan(text, n);
        Program fresh = new Program();
        reader.read(fresh);
        faultKind = reader.faultKind();
        faultPlace = reader.faultPlace();
        for (int b = 0; b < fresh.blocks.size() && faultKind == 0; b++) {
            prover.proveBlock(fresh, fresh.blocks.get(b));
            faultKind = prover.faultKind;
            faultPlace = prover.faultPlace;
        }
        if (faultKind == 0) {
            program = fresh;
            ran = false;
        }
        return faultKind;
    }

    public int fault(int what) {
        if (what == 0) {
            return faultKind;
        }
        return what == 1 && faultKind > 0 ? faultPlace : NONE;
    }

    public int give(long v) {
        if (givenSize >= GIVEN_LIMIT) {
            return NONE;
        }
        given[givenSize] = v;
        givenSize++;
        return givenSize;
    }

    public int run(int m, int a, int b, int c) {
        if (!meets(m, a, b, c)) {
            return NONE;
        }
        System.arraycopy(inputs, 0, ranInputs, 0, inputs.length);
        ranMethod = m;
        ranGiven = givenSize;
        ran = true;
        oversFound = NONE;
        machine.go(program, m, ranInputs, given, ranGiven, null);
        return machine.facts[Machine.ENDED];
    }

    public int about(int what) {
        if (!ran || what < 0 || what >= machine.facts.length) {
            return NONE;
        }
        return machine.facts[what];
    }

    public long result() {
        return ran ? machine.answer : 0;
    }

    public long cell(int k, int i) {
        return ran && machine.hasCell(k, i) ? machine.cellAt(k, i) : 0;
    }

    public long bound(int m, int what, int a, int b, int c) {
        if (what < 0 || what > 1 || !meets(m, a, b, c)) {
            return NONE;
        }
        Method method = program.methodAt(m);
        long worth = algebra.worth(what == 0 ? method.steps : method.cells, inputs);
        return algebra.beyond ? NONE : worth;
    }

    public int count(int what) {
        switch (what) {
            case 0:
                return program.methods.size();
            case 1:
                return program.blocks.size();
            case 2:
                return program.witnesses.size();
            case 3:
                return program.products;
            default:
                return NONE;
        }
    }

    public int shown(int i, int what) {
        if (i < 0 || i >= program.witnesses.size()) {
            return NONE;
        }
        Witness witness = program.witnesses.get(i);
        switch (what) {
            case 0:
                return witness.place;
            case 1:
                return witness.block;
            case 2:
                return witness.hypotheses;
            case 3:
                return witness.poly.size;
            case 4:
                return witness.number;
            case 5:
                return witness.products;
            default:
                return NONE;
        }
    }

    public int term(int i, int k, int what) {
        if (i < 0 || i >= program.witnesses.size()) {
            return 0;
        }
        Poly poly = program.witnesses.get(i).poly;
        if (k < 0 || k >= poly.size || what < -1 || what >= Poly.SYMBOLS) {
            return 0;
        }
        return what == -1 ? poly.coefs[k] : poly.power(k, what);
    }

    public int overs() {
        if (!ran) {
            return 0;
        }
        if (oversFound < 0) {
            // Looking over each block costs far more than running it: the run is done again only when asked for.
            if (audit == null) {
                audit = new Audit(algebra);
            }
            machine.go(program, ranMethod, ranInputs, given, ranGiven, audit);
            oversFound = audit.found;
        }
        return oversFound;
    }

    private void putBytes(int four) {
        for (int shift = 24; shift >= 0; shift -= 8) {
            text[textSize] = (byte) (four >> shift);
            textSize++;
        }
    }

    /** Whether there is a method m whose needs are met; its params' values are in inputs then. */
    private boolean meets(int m, int a, int b, int c) {
        if (m < 0 || m >= program.methods.size()) {
            return false;
        }
        inputs[0] = a;
        inputs[1] = b;
        inputs[2] = c;
        ArrayList<Poly> needs = program.methods.get(m).needs;
        for (int i = 0; i < needs.size(); i++) {
            long worth = algebra.worth(needs.get(i), inputs);
            if (algebra.beyond || worth < 0) {
                return false;
            }
        }
        return true;
    }

    /** A poly: its terms in ORDER, none with the coefficient 0. */
    static final class Poly {
        static final int SYMBOLS = 16;

        int size = 0;
        final int[] coefs;
        /** Of each term the sum of its powers. */
        final int[] sums;
        /** Of each term the powers, four bits each, that of SYMBOL 0 highest: so they compare as ORDER asks. */
        final long[] powers;

        Poly(int room) {
            coefs = new int[room];
            sums = new int[room];
            powers = new long[room];
        }

        int power(int k, int symbol) {
            return (int) (powers[k] >>> (60 - 4 * symbol)) & 15;
        }

        void setConstant(int number) {
            size = 0;
            if (number != 0 && coefs.length > 0) {
                coefs[0] = number;
                sums[0] = 0;
                powers[0] = 0;
                size = 1;
            }
        }

        void setSymbol(int symbol) {
            size = 0;
            if (coefs.length > 0) {
                coefs[0] = 1;
                sums[0] = 1;
                powers[0] = 1L << (60 - 4 * symbol);
                size = 1;
            }
        }

        void copy(Poly other) {
            size = Math.min(other.size, coefs.length);
            System.arraycopy(other.coefs, 0, coefs, 0, size);
            System.arraycopy(other.sums, 0, sums, 0, size);
            System.arraycopy(other.powers, 0, powers, 0, size);
        }

        /** One like this that takes no more room than it needs. */
        Poly kept() {
            Poly other = new Poly(size);
            other.copy(this);
            return other;
        }

        boolean same(Poly other) {
            boolean alike = size == other.size;
            for (int k = 0; k < size && alike; k++) {
                alike = coefs[k] == other.coefs[k] && powers[k] == other.powers[k];
            }
            return alike;
        }
    }

    /** Sums, differences and products of polys, each looked at for being TOO BIG; and what polys are worth. */
    static final class Algebra {
        static final int TERMS = 60;
        private static final int TOP = 99_999_999;
        /** A product of two polys has no more terms than this before like ones are put together. */
        private static final int MOST_ROOM = TERMS * TERMS + TERMS;
        private static final int FIRST_ROOM = 2 * TERMS;
        private static final long LOW_HALVES = 0x0F0F0F0F0F0F0F0FL;
        private static final long TEN_TO_TOP_BIT = 0x7676767676767676L;
        private static final long TOP_BITS = 0x8080808080808080L;

        /** Something was TOO BIG since this was last set to false; what is worked until then does nothing. */
        boolean big = false;
        /** The latest worth() went beyond 64 bits. */
        boolean beyond = false;

        private long[] coefs = new long[FIRST_ROOM];
        private int[] sums = new int[FIRST_ROOM];
        private long[] powers = new long[FIRST_ROOM];
        private long[] nextCoefs = new long[FIRST_ROOM];
        private int[] nextSums = new int[FIRST_ROOM];
        private long[] nextPowers = new long[FIRST_ROOM];
        private int size = 0;
        private final Poly piece = new Poly(TERMS);
        private final Poly total = new Poly(TERMS);

        void plus(Poly a, Poly b, Poly out) {
            size = 0;
            addProduct(a, 1, 0, 0);
            addProduct(b, 1, 0, 0);
            settle(out);
        }

        void minus(Poly a, Poly b, Poly out) {
            size = 0;
            addProduct(a, 1, 0, 0);
            addProduct(b, -1, 0, 0);
            settle(out);
        }

        void times(Poly a, Poly b, Poly out) {
            Poly more = a.size < b.size ? b : a;
            Poly less = a.size < b.size ? a : b;
            size = 0;
            for (int k = 0; k < less.size; k++) {
                big = big || crowded(more, less.powers[k]);
                addProduct(more, less.coefs[k], less.sums[k], less.powers[k]);
            }
            settle(out);
        }

        /** PUTs the values for the SYMBOLS of the poly. */
        void put(Poly poly, Poly[] values, Poly out) {
            total.size = 0;
            for (int k = 0; k < poly.size && !big; k++) {
                piece.setConstant(poly.coefs[k]);
                for (int s = 0; s < values.length && s < Poly.SYMBOLS; s++) {
                    int power = poly.power(k, s);
                    for (int turn = 0; turn < power && !big; turn++) {
                        times(piece, values[s], piece);
                    }
                }
                plus(total, piece, total);
            }
            out.copy(total);
        }

        /** What the poly is worth with these values, as long as no step of it goes beyond 64 bits. */
        long worth(Poly poly, long[] values) {
            beyond = false;
            long sum = 0;
            for (int k = 0; k < poly.size && !beyond; k++) {
                long product = poly.coefs[k];
                for (int s = 0; s < values.length && s < Poly.SYMBOLS; s++) {
                    int power = poly.power(k, s);
                    for (int turn = 0; turn < power && !beyond; turn++) {
                        beyond = !productFits(product, values[s]);
                        product *= values[s];
                    }
                }
                beyond = beyond || !sumFits(sum, product);
                sum += product;
            }
            return sum;
        }

        static boolean sumFits(long a, long b) {
            long sum = a + b;
            return ((a ^ sum) & (b ^ sum)) >= 0;
        }

        static boolean differenceFits(long a, long b) {
            return ((a ^ b) & (a ^ (a - b))) >= 0;
        }

        static boolean productFits(long a, long b) {
            if (a == 0 || b == 0) {
                return true;
            }
            // The one quotient that is itself beyond 64 bits must not be asked for.
            if (a == -1 || b == -1) {
                return a != Long.MIN_VALUE && b != Long.MIN_VALUE;
            }
            return a * b / b == a;
        }

        /** Adds the poly times one term to what is being worked; coefficients are looked at when it is settled. */
        private void addProduct(Poly poly, long coef, int sum, long power) {
            int most = size + poly.size;
            big = big || most > MOST_ROOM;
            if (big) {
                return;
            }
            if (most > nextCoefs.length) {
                int room = Math.min(2 * most, MOST_ROOM);
                nextCoefs = new long[room];
                nextSums = new int[room];
                nextPowers = new long[room];
            }
            int own = 0;
            int other = 0;
            int made = 0;
            for (int turn = 0; turn < most && (own < size || other < poly.size); turn++) {
                int ownSum = own < size ? sums[own] : -1;
                long ownPower = own < size ? powers[own] : 0;
                int otherSum = other < poly.size ? poly.sums[other] + sum : -1;
                long otherPower = other < poly.size ? poly.powers[other] + power : 0;
                int order = Integer.compare(ownSum, otherSum);
                if (order == 0) {
                    order = Long.compare(ownPower + Long.MIN_VALUE, otherPower + Long.MIN_VALUE);
                }
                long together = 0;
                if (order >= 0) {
                    together += coefs[own];
                    own++;
                }
                if (order <= 0) {
                    together += poly.coefs[other] * coef;
                    other++;
                }
                if (together != 0) {
                    nextCoefs[made] = together;
                    nextSums[made] = order >= 0 ? ownSum : otherSum;
                    nextPowers[made] = order >= 0 ? ownPower : otherPower;
                    made++;
                }
            }
            long[] oldCoefs = coefs;
            int[] oldSums = sums;
            long[] oldPowers = powers;
            coefs = nextCoefs;
            sums = nextSums;
            powers = nextPowers;
            nextCoefs = oldCoefs;
            nextSums = oldSums;
            nextPowers = oldPowers;
            size = made;
        }

        /** Whether a term of the poly times one with these powers has a power above 9. */
        private static boolean crowded(Poly poly, long power) {
            long even = (power & LOW_HALVES) + TEN_TO_TOP_BIT;
            long odd = (power >>> 4 & LOW_HALVES) + TEN_TO_TOP_BIT;
            long tops = 0;
            for (int k = 0; k < poly.size; k++) {
                tops |= even + (poly.powers[k] & LOW_HALVES);
                tops |= odd + (poly.powers[k] >>> 4 & LOW_HALVES);
            }
            return (tops & TOP_BITS) != 0;
        }

        private void settle(Poly out) {
            big = big || size > TERMS || size > out.coefs.length;
            for (int k = 0; k < size && !big; k++) {
                big = coefs[k] > TOP || coefs[k] < -TOP;
            }
            out.size = big ? 0 : size;
            for (int k = 0; k < out.size; k++) {
                out.coefs[k] = (int) coefs[k];
                out.sums[k] = sums[k];
                out.powers[k] = powers[k];
            }
        }
    }

    /** The text in tokens; behind the last one stands END. */
    static final class Tokens {
        static final int NAME = 1;
        static final int NUMBER = 2;
        static final int BAD = 3;
        static final int END = 4;
        static final int NOTHING = 5;
        static final int AT_MOST = 6;
        static final int AT_LEAST = 7;
        static final int EQUAL = 8;
        static final int UNLIKE = 9;
        static final int METHOD = 11;
        static final int NEEDS = 12;
        static final int STEPS = 13;
        static final int CELLS = 14;
        static final int GIVES = 15;
        static final int RESULT = 16;
        static final int VAR = 17;
        static final int KEEPS = 18;
        static final int LEFT = 19;
        static final int GOTO = 20;
        static final int IF = 21;
        static final int ELSE = 22;
        static final int RETURN = 23;
        static final int FAIL = 24;
        static final int NEW = 25;
        static final int LEN = 26;
        static final int READ = 27;
        static final int BY = 28;
        private static final int NO_NAMES = 18;
        /** In the order of their kinds, each with a blank behind it. */
        private static final String WORDS =
                "method needs steps cells gives result var keeps left goto if else return fail new len read by ";
        private static final String SIGNS = "(){}[],;:=<>+-*/%#^";
        private static final int LONGEST = 8;
        private static final int FIRST_ROOM = 128;

        /** A sign's kind is its own character. */
        int[] kinds = new int[FIRST_ROOM];
        int[] places = new int[FIRST_ROOM];
        /** A number's value, or a word's characters, seven bits each. */
        long[] values = new long[FIRST_ROOM];
        int size = 0;
        private final long[] noNames = new long[NO_NAMES];

        Tokens() {
            int word = 0;
            long code = 0;
            for (int i = 0; i < WORDS.length() && word < NO_NAMES; i++) {
                if (WORDS.charAt(i) == ' ') {
                    noNames[word] = code;
                    word++;
                    code = 0;
                } else {
                    code = code << 7 | WORDS.charAt(i);
                }
            }
        }

        void scan(byte[] text, int n) {
            int end = Math.min(n, text.length);
            int at = 0;
            size = 0;
            for (int turn = 0; turn < TEXT_LIMIT && at < end; turn++) {
                int sign = text[at];
                if (sign == 10 || sign == 32) {
                    at++;
                } else if (isLetter(sign)) {
                    at = scanWord(text, at, end);
                } else if (isDigit(sign)) {
                    at = scanNumber(text, at, end);
                } else {
                    at = scanSign(text, at, end);
                }
            }
            add(END, end, 0);
        }

        private static boolean isLetter(int sign) {
            return sign >= 'a' && sign <= 'z' || sign >= 'A' && sign <= 'Z';
        }

        private static boolean isDigit(int sign) {
            return sign >= '0' && sign <= '9';
        }

        private int scanWord(byte[] text, int from, int end) {
            long code = 0;
            int at = from;
            while (at < end && (isLetter(text[at]) || isDigit(text[at]))) {
                code = code << 7 | text[at];
                at++;
            }
            int kind = at - from > LONGEST ? BAD : NAME;
            for (int word = 0; word < NO_NAMES && kind == NAME; word++) {
                if (noNames[word] == code) {
                    kind = METHOD + word;
                }
            }
            add(kind, from, code);
            return at;
        }

        private int scanNumber(byte[] text, int from, int end) {
            long value = 0;
            int at = from;
            while (at < end && isDigit(text[at])) {
                value = value * 10 + text[at] - '0';
                at++;
            }
            boolean bad = at - from > LONGEST || at < end && isLetter(text[at]);
            add(bad ? BAD : NUMBER, from, value);
            return at;
        }

        private int scanSign(byte[] text, int from, int end) {
            int sign = text[from];
            boolean equals = from + 1 < end && text[from + 1] == '=';
            int two = !equals ? 0 : sign == '<' ? AT_MOST : sign == '>' ? AT_LEAST : sign == '=' ? EQUAL
                    : sign == '!' ? UNLIKE : 0;
            boolean known = sign > 0 && SIGNS.indexOf((char) sign) >= 0;
            add(two != 0 ? two : known ? sign : BAD, from, 0);
            return two != 0 ? from + 2 : from + 1;
        }

        private void add(int kind, int place, long value) {
            if (size == kinds.length) {
                kinds = Arrays.copyOf(kinds, 2 * size);
                places = Arrays.copyOf(places, 2 * size);
                values = Arrays.copyOf(values, 2 * size);
            }
            kinds[size] = kind;
            places[size] = place;
            values[size] = value;
            size++;
        }
    }

    /** What a text tells: methods, their blocks, and all witnesses with their terms, by the text. */
    static final class Program {
        static final int HYPS = 4;

        final ArrayList<Method> methods = new ArrayList<>();
        final ArrayList<Block> blocks = new ArrayList<>();
        final ArrayList<Witness> witnesses = new ArrayList<>();
        private final Method nobody = new Method();
        /** What a witness shows that was not looked at yet. */
        final Poly nothing = new Poly(0);
        /** Terms of all witnesses; what is no hypothesis of a term is below 0. */
        int products = 0;
        private int[] numbers = new int[16];
        private int[] hyps = new int[16 * HYPS];

        void addProduct(int number) {
            if (products == numbers.length) {
                numbers = Arrays.copyOf(numbers, 2 * products);
                hyps = Arrays.copyOf(hyps, 2 * products * HYPS);
            }
            numbers[products] = number;
            Arrays.fill(hyps, products * HYPS, (products + 1) * HYPS, -1);
            products++;
        }

        /** Sets a hypothesis of the latest term; one too many is not kept, as its text is refused. */
        void addHyp(int k, int hyp) {
            if (products > 0 && k >= 0 && k < HYPS) {
                hyps[(products - 1) * HYPS + k] = hyp;
            }
        }

        int number(int product) {
            return product >= 0 && product < products ? numbers[product] : 0;
        }

        int hyp(int product, int k) {
            return product >= 0 && product < products && k >= 0 && k < HYPS ? hyps[product * HYPS + k] : -1;
        }

        /** The method of this number; one that is empty, if there is none such. */
        Method methodAt(int m) {
            return m >= 0 && m < methods.size() ? methods.get(m) : nobody;
        }

        int findMethod(long name) {
            int found = -1;
            for (int m = 0; m < methods.size() && found < 0; m++) {
                if (methods.get(m).name == name) {
                    found = m;
                }
            }
            return found;
        }
    }

    static final class Method {
        static final int PARAMS = 3;
        static final int NAMES = 6;

        long name = 0;
        int params = 0;
        /** Params, then locals; one too many is not kept, as its text is refused. */
        int names = 0;
        final long[] nameCodes = new long[NAMES];
        final ArrayList<Poly> needs = new ArrayList<>();
        final ArrayList<Poly> gives = new ArrayList<>();
        final ArrayList<Block> blocks = new ArrayList<>();
        Poly steps = new Poly(0);
        Poly cells = new Poly(0);

        int findName(long code) {
            int found = -1;
            for (int k = 0; k < names && k < NAMES && found < 0; k++) {
                if (nameCodes[k] == code) {
                    found = k;
                }
            }
            return found;
        }

        int findBlock(long code, int from) {
            int found = -1;
            for (int b = from; b < blocks.size() && found < 0; b++) {
                if (blocks.get(b).name == code) {
                    found = b;
                }
            }
            return found;
        }
    }

    static final class Block {
        final Method method;
        final int place;
        final boolean first;
        final ArrayList<Poly> keeps = new ArrayList<>();
        final ArrayList<Step> steps = new ArrayList<>();
        /** What is left at its beginning; at that of the first block it is what the method tells. */
        Poly leftSteps;
        Poly leftCells;
        Step jump = new Step(0);
        long name = 0;
        int byPlace = -1;
        int firstWitness = 0;
        int witnesses = 0;

        Block(Method method, int place, boolean first) {
            this.method = method;
            this.place = place;
            this.first = first;
            leftSteps = method.steps;
            leftCells = method.cells;
        }
    }

    /** A statement or a jump. */
    static final class Step {
        static final int SET = 1;
        static final int ADD = 2;
        static final int SUBTRACT = 3;
        static final int MULTIPLY = 4;
        static final int DIVIDE = 5;
        static final int REMAIN = 6;
        static final int MAKE = 7;
        static final int LENGTH = 8;
        static final int TAKE = 9;
        static final int CALL = 10;
        static final int LOAD = 11;
        static final int STORE = 12;
        static final int GO = 13;
        static final int CHOOSE = 14;
        static final int GIVE_BACK = 15;
        static final int BREAK_OFF = 16;
        static final int ATOMS = 3;

        final int place;
        int kind = BREAK_OFF;
        /** The local that is set, and the name ahead of [. */
        int target = 0;
        int base = 0;
        int relation = 0;
        /** Atoms, in their order: a name's number, or below 0 and a value; a fourth one is not kept. */
        int atoms = 0;
        final int[] atomNames = new int[ATOMS];
        final int[] atomValues = new int[ATOMS];
        /** What is called or gone to: as it is written, and, when all is read, its number. */
        final long[] goalNames = new long[2];
        final int[] goalPlaces = new int[2];
        final int[] goals = new int[2];

        Step(int place) {
            this.place = place;
        }

        void addAtom(int name, int value) {
            if (atoms < ATOMS) {
                atomNames[atoms] = name;
                atomValues[atoms] = value;
            }
            atoms++;
        }
    }

    /** A witness, and what it showed. */
    static final class Witness {
        final int place;
        final int block;
        final int firstProduct;
        int products = 0;
        int number = 1;
        int hypotheses = 0;
        Poly poly;

        Witness(int place, int block, int firstProduct, Poly poly) {
            this.place = place;
            this.block = block;
            this.firstProduct = firstProduct;
            this.poly = poly;
        }
    }

    /** Reads tokens to a program, and looks for the faults that need no proof. */
    static final class Reader {
        private static final int MOST_METHODS = 12;
        private static final int MOST_BLOCKS = 20;
        private static final int MOST_STEPS = 10;
        private static final int MOST_CONDS = 6;
        private static final int MOST_WITNESSES = 40;
        private static final int MOST_PRODUCTS = 20;
        private static final int MOST_MONOS = 20;
        private static final int MOST_FACTORS = 4;
        private static final int MOST_POWER = 6;

        private final Tokens tokens;
        private final Algebra algebra;
        private final Poly left = new Poly(Algebra.TERMS);
        private final Poly right = new Poly(Algebra.TERMS);
        private final Poly mono = new Poly(Algebra.TERMS);
        private final Poly factor = new Poly(Algebra.TERMS);
        private Program program = new Program();
        private Method method = new Method();
        private Block block = new Block(method, 0, true);
        private int at = 0;
        private int stuckAt = -1;
        private int brokenAt = -1;
        private int bigAt = -1;

        Reader(Tokens tokens, Algebra algebra) {
            this.tokens = tokens;
            this.algebra = algebra;
        }

        int faultKind() {
            return stuckAt >= 0 ? 1 : brokenAt >= 0 ? 2 : bigAt >= 0 ? 5 : 0;
        }

        int faultPlace() {
            return stuckAt >= 0 ? stuckAt : brokenAt >= 0 ? brokenAt : bigAt;
        }

        void read(Program fresh) {
            program = fresh;
            at = 0;
            stuckAt = -1;
            brokenAt = -1;
            bigAt = -1;
            algebra.big = false;
            for (int turn = 0; turn < tokens.size && kind() == Tokens.METHOD; turn++) {
                readHead();
                readBlock(true);
                for (int more = 0; more < tokens.size && kind() == Tokens.NAME; more++) {
                    readBlock(false);
                }
                want('}');
            }
            want(Tokens.END);
            if (stuckAt < 0) {
                findGoals();
            }
        }

        /** The kind of the token that is next; NOTHING, so that no loop goes on, once one did not fit. */
        private int kind() {
            return stuckAt < 0 && at < tokens.size ? tokens.kinds[at] : Tokens.NOTHING;
        }

        private int kindBehind() {
            return stuckAt < 0 && at + 1 < tokens.size ? tokens.kinds[at + 1] : Tokens.NOTHING;
        }

        private int place() {
            return at < tokens.size ? tokens.places[at] : 0;
        }

        private boolean take(int kind) {
            boolean fits = stuckAt < 0 && at < tokens.size && tokens.kinds[at] == kind;
            if (fits) {
                at++;
            }
            return fits;
        }

        /** Takes a token of this kind, and tells its value; if it is of another kind, the reader is stuck. */
        private long want(int kind) {
            if (stuckAt >= 0 || at >= tokens.size) {
                return 0;
            }
            long value = tokens.values[at];
            if (tokens.kinds[at] == kind) {
                at++;
            } else {
                stuckAt = tokens.places[at];
            }
            return value;
        }

        private void breakRule(int place) {
            if (brokenAt < 0 || place < brokenAt) {
                brokenAt = place;
            }
        }

        /** Texts are read in their order: the first poly that is TOO BIG is the one that is met first. */
        private void noteBig(int place) {
            if (algebra.big && bigAt < 0) {
                bigAt = place;
            }
            algebra.big = false;
        }

        private void readHead() {
            method = new Method();
            if (program.methods.size() >= MOST_METHODS) {
                breakRule(place());
            }
            want(Tokens.METHOD);
            int place = place();
            method.name = want(Tokens.NAME);
            if (program.findMethod(method.name) >= 0) {
                breakRule(place);
            }
            program.methods.add(method);
            want('(');
            if (kind() == Tokens.NAME) {
                readNames(true);
            }
            want(')');
            if (take(Tokens.NEEDS)) {
                readConds(method.needs, false);
            }
            want(Tokens.STEPS);
            method.steps = readPoly(left, false).kept();
            want(Tokens.CELLS);
            method.cells = readPoly(left, false).kept();
            if (take(Tokens.GIVES)) {
                readConds(method.gives, true);
            }
            want('{');
            if (take(Tokens.VAR)) {
                readNames(false);
                want(';');
            }
        }

        private void readNames(boolean params) {
            boolean more = true;
            for (int turn = 0; turn < tokens.size && more; turn++) {
                int place = place();
                long name = want(Tokens.NAME);
                if (method.findName(name) >= 0 || method.names >= Method.NAMES
                        || params && method.params >= Method.PARAMS) {
                    breakRule(place);
                }
                if (method.names < Method.NAMES) {
                    method.nameCodes[method.names] = name;
                }
                method.names++;
                if (params) {
                    method.params++;
                }
                more = take(',');
            }
        }

        private void readConds(ArrayList<Poly> conds, boolean inGives) {
            boolean more = true;
            for (int turn = 0; turn < tokens.size && more; turn++) {
                int place = place();
                if (turn >= MOST_CONDS) {
                    breakRule(place);
                }
                readPoly(left, inGives);
                boolean atMost = take(Tokens.AT_MOST);
                if (!atMost) {
                    want(Tokens.AT_LEAST);
                }
                readPoly(right, inGives);
                if (atMost) {
                    algebra.minus(right, left, left);
                } else {
                    algebra.minus(left, right, left);
                }
                noteBig(place);
                conds.add(left.kept());
                more = take(',');
            }
        }

        private Poly readPoly(Poly out, boolean inGives) {
            int place = place();
            boolean minus = take('-');
            boolean more = true;
            out.size = 0;
            for (int turn = 0; turn < tokens.size && more; turn++) {
                if (turn >= MOST_MONOS) {
                    breakRule(place());
                }
                readMono(inGives);
                if (minus) {
                    algebra.minus(out, mono, out);
                } else {
                    algebra.plus(out, mono, out);
                }
                minus = take('-');
                more = minus || take('+');
            }
            noteBig(place);
            return out;
        }

        private void readMono(boolean inGives) {
            boolean more = true;
            mono.setConstant(1);
            for (int turn = 0; turn < tokens.size && more; turn++) {
                if (turn >= MOST_FACTORS) {
                    breakRule(place());
                }
                int power = readFactor(inGives);
                for (int k = 0; k < power; k++) {
                    algebra.times(mono, factor, mono);
                }
                more = take('*');
            }
        }

        /** Reads a factor without its power to factor, and tells its power. */
        private int readFactor(boolean inGives) {
            int place = place();
            if (kind() == Tokens.NUMBER) {
                factor.setConstant((int) want(Tokens.NUMBER));
                return 1;
            }
            if (take(Tokens.RESULT)) {
                if (!inGives) {
                    breakRule(place);
                }
                factor.setSymbol(Math.min(method.params, Method.PARAMS));
            } else {
                int found = method.findName(want(Tokens.NAME));
                if (found < 0) {
                    breakRule(place);
                }
                factor.setSymbol(Math.max(found, 0));
            }
            if (!take('^')) {
                return 1;
            }
            int powerPlace = place();
            long power = want(Tokens.NUMBER);
            if (power < 1 || power > MOST_POWER) {
                breakRule(powerPlace);
                return 1;
            }
            return (int) power;
        }

        /** The number of a param or local; of one that is not there, any. */
        private int findName(long name, int place) {
            int found = method.findName(name);
            if (found < 0) {
                breakRule(place);
            }
            return Math.max(found, 0);
        }

        private void readBlock(boolean first) {
            block = new Block(method, place(), first);
            block.name = want(Tokens.NAME);
            if (method.findBlock(block.name, 0) >= 0 || method.blocks.size() >= MOST_BLOCKS) {
                breakRule(block.place);
            }
            method.blocks.add(block);
            program.blocks.add(block);
            if (!first) {
                if (take(Tokens.KEEPS)) {
                    readConds(block.keeps, false);
                }
                want(Tokens.LEFT);
                block.leftSteps = readPoly(left, false).kept();
                want(',');
                block.leftCells = readPoly(left, false).kept();
            }
            want(':');
            for (int turn = 0; turn < tokens.size && kind() == Tokens.NAME; turn++) {
                readStatement();
            }
            readJump();
            readWitnesses();
        }

        private void readStatement() {
            Step step = new Step(place());
            if (block.steps.size() >= MOST_STEPS) {
                breakRule(step.place);
            }
            block.steps.add(step);
            long name = want(Tokens.NAME);
            if (take('[')) {
                step.kind = Step.STORE;
                step.base = findName(name, step.place);
                readAtom(step);
                want(']');
                want('=');
                readAtom(step);
            } else {
                want('=');
                step.target = findName(name, step.place);
                if (step.target < method.params) {
                    breakRule(step.place);
                }
                if (kind() == Tokens.NAME && kindBehind() == '(') {
                    readCall(step);
                } else {
                    readExp(step);
                }
            }
            if (step.kind == Step.SET) {
                readOperation(step);
            }
            want(';');
        }

        private void readExp(Step step) {
            if (take(Tokens.NEW)) {
                step.kind = Step.MAKE;
                readAtom(step);
            } else if (take(Tokens.LEN)) {
                step.kind = Step.LENGTH;
                readAtom(step);
            } else if (take(Tokens.READ)) {
                step.kind = Step.TAKE;
            } else if (kind() == Tokens.NAME && kindBehind() == '[') {
                step.kind = Step.LOAD;
                int place = place();
                step.base = findName(want(Tokens.NAME), place);
                want('[');
                readAtom(step);
                want(']');
            } else {
                step.kind = Step.SET;
                readAtom(step);
            }
        }

        private void readCall(Step step) {
            step.kind = Step.CALL;
            readGoal(step, 0);
            want('(');
            boolean more = kind() != ')';
            for (int turn = 0; turn < tokens.size && more; turn++) {
                readAtom(step);
                more = take(',');
            }
            want(')');
        }

        /** What may stand behind an atom that a statement sets. */
        private void readOperation(Step step) {
            if (take('+')) {
                step.kind = Step.ADD;
            } else if (take('-')) {
                step.kind = Step.SUBTRACT;
            } else if (take('*')) {
                step.kind = Step.MULTIPLY;
            } else if (take('/')) {
                step.kind = Step.DIVIDE;
            } else if (take('%')) {
                step.kind = Step.REMAIN;
            }
            if (step.kind == Step.DIVIDE || step.kind == Step.REMAIN) {
                int place = place();
                int divisor = (int) want(Tokens.NUMBER);
                if (divisor == 0) {
                    breakRule(place);
                }
                step.addAtom(-1, divisor);
            } else if (step.kind != Step.SET) {
                readAtom(step);
            }
        }

        private void readAtom(Step step) {
            if (kind() == Tokens.NAME) {
                int place = place();
                step.addAtom(findName(want(Tokens.NAME), place), 0);
            } else {
                boolean minus = take('-');
                int value = (int) want(Tokens.NUMBER);
                step.addAtom(-1, minus ? -value : value);
            }
        }

        private void readGoal(Step step, int k) {
            step.goalPlaces[k] = place();
            step.goalNames[k] = want(Tokens.NAME);
        }

        private void readJump() {
            Step step = new Step(place());
            block.jump = step;
            if (take(Tokens.GOTO)) {
                step.kind = Step.GO;
                readGoal(step, 0);
            } else if (take(Tokens.IF)) {
                step.kind = Step.CHOOSE;
                readAtom(step);
                readRelation(step);
                readAtom(step);
                want(Tokens.GOTO);
                readGoal(step, 0);
                want(Tokens.ELSE);
                readGoal(step, 1);
            } else if (take(Tokens.RETURN)) {
                step.kind = Step.GIVE_BACK;
                readAtom(step);
            } else {
                want(Tokens.FAIL);
            }
            want(';');
        }

        private void readRelation(Step step) {
            int kind = kind();
            boolean fits = kind == '>' || kind == Tokens.AT_MOST || kind == Tokens.AT_LEAST || kind == Tokens.EQUAL
                    || kind == Tokens.UNLIKE;
            step.relation = fits ? kind : '<';
            want(step.relation);
        }

        private void readWitnesses() {
            block.firstWitness = program.witnesses.size();
            if (kind() != Tokens.BY) {
                return;
            }
            block.byPlace = place();
            want(Tokens.BY);
            want('{');
            boolean more = true;
            for (int turn = 0; turn < tokens.size && more; turn++) {
                readWitness();
                more = take(';');
            }
            want('}');
        }

        private void readWitness() {
            Witness witness = new Witness(place(), program.blocks.size() - 1, program.products, program.nothing);
            if (block.witnesses >= MOST_WITNESSES) {
                breakRule(witness.place);
            }
            program.witnesses.add(witness);
            block.witnesses++;
            if (kind() == Tokens.NUMBER && kindBehind() == ':') {
                witness.number = (int) want(Tokens.NUMBER);
                want(':');
            }
            boolean more = true;
            for (int turn = 0; turn < tokens.size && more; turn++) {
                if (turn >= MOST_PRODUCTS) {
                    breakRule(place());
                }
                readProduct();
                witness.products++;
                more = take('+');
            }
        }

        private void readProduct() {
            boolean more = true;
            if (kind() == Tokens.NUMBER) {
                program.addProduct((int) want(Tokens.NUMBER));
                more = take('*');
            } else {
                program.addProduct(1);
            }
            for (int k = 0; k < tokens.size && more; k++) {
                if (k >= Program.HYPS) {
                    breakRule(place());
                }
                want('#');
                program.addHyp(k, (int) want(Tokens.NUMBER));
                more = take('*');
            }
        }

        /** Calls and jumps may tell of what stands behind them: they are looked up when all is read. */
        private void findGoals() {
            for (int b = 0; b < program.blocks.size(); b++) {
                Block here = program.blocks.get(b);
                for (int i = 0; i < here.steps.size(); i++) {
                    Step step = here.steps.get(i);
                    if (step.kind == Step.CALL) {
                        findCalled(step);
                    }
                }
                int goals = here.jump.kind == Step.CHOOSE ? 2 : here.jump.kind == Step.GO ? 1 : 0;
                for (int k = 0; k < goals; k++) {
                    int found = here.method.findBlock(here.jump.goalNames[k], 1);
                    if (found < 0) {
                        breakRule(here.jump.goalPlaces[k]);
                    }
                    here.jump.goals[k] = found;
                }
            }
        }

        private void findCalled(Step step) {
            int found = program.findMethod(step.goalNames[0]);
            if (found < 0 || program.methods.get(found).params != step.atoms) {
                breakRule(step.goalPlaces[0]);
            }
            step.goals[0] = found;
        }
    }

    /** Checks the proof of a block: what is to be SHOWN, each by the witness that is next. */
    static final class Prover {
        private static final int BROUGHT = 6;
        private static final int MOST_HYPS = 80;

        int faultKind = 0;
        int faultPlace = -1;

        private final Algebra algebra;
        private final Poly[] values = new Poly[Method.NAMES];
        private final Poly[] inputs = new Poly[Method.PARAMS + 1];
        private final Poly[] hyps = new Poly[MOST_HYPS];
        private int hypCount = 0;
        private final Poly steps = new Poly(Algebra.TERMS);
        private final Poly cells = new Poly(Algebra.TERMS);
        private final Poly a = new Poly(Algebra.TERMS);
        private final Poly b = new Poly(Algebra.TERMS);
        private final Poly unknown = new Poly(Algebra.TERMS);
        private final Poly number = new Poly(Algebra.TERMS);
        private final Poly work = new Poly(Algebra.TERMS);
        private final Poly many = new Poly(Algebra.TERMS);
        private final Poly product = new Poly(Algebra.TERMS);
        private final Poly sum = new Poly(Algebra.TERMS);
        private Program program = new Program();
        private Block block = new Block(new Method(), 0, true);
        private int next = 0;

        Prover(Algebra algebra) {
            this.algebra = algebra;
            for (int k = 0; k < values.length; k++) {
                values[k] = new Poly(Algebra.TERMS);
            }
            for (int k = 0; k < inputs.length; k++) {
                inputs[k] = new Poly(Algebra.TERMS);
            }
        }

        void proveBlock(Program fresh, Block here) {
            program = fresh;
            block = here;
            next = here.firstWitness;
            faultKind = 0;
            faultPlace = -1;
            algebra.big = false;
            if (wanted() != here.witnesses) {
                refuse(3, here.byPlace >= 0 ? here.byPlace : here.place);
                return;
            }
            begin();
            takeNumber(here.steps.size());
            takeNumber(1);
            show(steps, here.place);
            show(cells, here.place);
            for (int i = 0; i < here.steps.size() && faultKind == 0; i++) {
                proveStep(here.steps.get(i), i);
            }
            if (faultKind == 0) {
                proveJump(here.jump);
            }
        }

        private void refuse(int kind, int place) {
            if (faultKind == 0) {
                faultKind = kind;
                faultPlace = place;
            }
        }

        private int wanted() {
            int wanted = 2;
            for (int i = 0; i < block.steps.size(); i++) {
                Step step = block.steps.get(i);
                if (step.kind == Step.MAKE) {
                    wanted++;
                } else if (step.kind == Step.CALL) {
                    wanted += program.methodAt(step.goals[0]).needs.size() + 2;
                }
            }
            Step jump = block.jump;
            int goals = jump.kind == Step.CHOOSE ? 2 : jump.kind == Step.GO ? 1 : 0;
            for (int k = 0; k < goals; k++) {
                wanted += goalOf(jump, k).keeps.size() + 2;
            }
            return jump.kind == Step.GIVE_BACK ? wanted + block.method.gives.size() : wanted;
        }

        /** The block that a jump of this one goes to. */
        private Block goalOf(Step jump, int k) {
            int goal = jump.goals[k];
            return goal >= 0 && goal < block.method.blocks.size() ? block.method.blocks.get(goal) : block;
        }

        private void begin() {
            Method method = block.method;
            for (int k = 0; k < values.length; k++) {
                if (block.first && k >= method.params) {
                    values[k].size = 0;
                } else {
                    values[k].setSymbol(k);
                }
            }
            hypCount = 0;
            for (int i = 0; i < method.needs.size(); i++) {
                come(method.needs.get(i));
            }
            for (int i = 0; i < block.keeps.size(); i++) {
                come(block.keeps.get(i));
            }
            steps.copy(block.leftSteps);
            cells.copy(block.leftCells);
        }

        private void come(Poly poly) {
            if (hypCount < hyps.length) {
                if (hyps[hypCount] == null) {
                    hyps[hypCount] = new Poly(Algebra.TERMS);
                }
                hyps[hypCount].copy(poly);
                hypCount++;
            }
        }

        private void takeNumber(int less) {
            number.setConstant(less);
            algebra.minus(steps, number, steps);
        }

        /** The poly is SHOWN by the next witness; the place is that of what wants it. */
        private void show(Poly poly, int place) {
            if (algebra.big) {
                refuse(5, place);
            }
            if (faultKind != 0 || next >= program.witnesses.size()) {
                return;
            }
            Witness witness = program.witnesses.get(next);
            next++;
            witness.poly = poly.kept();
            witness.hypotheses = hypCount;
            if (witness.number == 0 || !hasHyps(witness)) {
                refuse(4, witness.place);
                return;
            }
            number.setConstant(witness.number);
            algebra.times(poly, number, many);
            addProducts(witness);
            if (algebra.big) {
                refuse(5, witness.place);
            } else if (!many.same(sum)) {
                refuse(4, witness.place);
            }
        }

        private boolean hasHyps(Witness witness) {
            boolean all = true;
            for (int t = 0; t < witness.products && all; t++) {
                for (int k = 0; k < Program.HYPS && all; k++) {
                    all = program.hyp(witness.firstProduct + t, k) < hypCount;
                }
            }
            return all;
        }

        private void addProducts(Witness witness) {
            sum.size = 0;
            for (int t = 0; t < witness.products && !algebra.big; t++) {
                int at = witness.firstProduct + t;
                product.setConstant(program.number(at));
                for (int k = 0; k < Program.HYPS; k++) {
                    int hyp = program.hyp(at, k);
                    if (hyp >= 0 && hyp < hypCount && hyps[hyp] != null) {
                        algebra.times(product, hyps[hyp], product);
                    }
                }
                algebra.plus(sum, product, sum);
            }
        }

        private void readAtom(Step step, int k, Poly out) {
            int name = k < Step.ATOMS && k < step.atoms ? step.atomNames[k] : -1;
            if (name >= 0 && name < values.length) {
                out.copy(values[name]);
            } else {
                out.setConstant(k < Step.ATOMS ? step.atomValues[k] : 0);
            }
        }

        private void proveStep(Step step, int index) {
            readAtom(step, 0, a);
            readAtom(step, 1, b);
            unknown.setSymbol(Math.min(BROUGHT + index, Poly.SYMBOLS - 1));
            switch (step.kind) {
                case Step.SET:
                    setTarget(step, a);
                    break;
                case Step.ADD:
                    algebra.plus(a, b, work);
                    setTarget(step, work);
                    break;
                case Step.SUBTRACT:
                    algebra.minus(a, b, work);
                    setTarget(step, work);
                    break;
                case Step.MULTIPLY:
                    algebra.times(a, b, work);
                    setTarget(step, work);
                    break;
                case Step.DIVIDE:
                    proveDivision(step);
                    break;
                case Step.REMAIN:
                    proveRemainder(step);
                    break;
                case Step.MAKE:
                    proveMaking(step);
                    break;
                case Step.CALL:
                    proveCall(step);
                    break;
                case Step.STORE:
                    come(a);
                    break;
                default:
                    proveUnknown(step);
                    break;
            }
            if (algebra.big) {
                refuse(5, step.place);
            }
        }

        /** len, x[a] or read: what it brings nobody knows, but that a length or an index is 0 or more. */
        private void proveUnknown(Step step) {
            if (step.kind == Step.LENGTH) {
                come(unknown);
            } else if (step.kind == Step.LOAD) {
                come(a);
            }
            setTarget(step, unknown);
        }

        private void setTarget(Step step, Poly value) {
            if (step.target >= 0 && step.target < values.length) {
                values[step.target].copy(value);
            }
        }

        private void lessOne(Poly poly) {
            number.setConstant(1);
            algebra.minus(poly, number, poly);
        }

        /** b is the divisor n: a - n q, then n q + n - 1 - a come. */
        private void proveDivision(Step step) {
            algebra.times(b, unknown, many);
            algebra.minus(a, many, work);
            come(work);
            algebra.plus(many, b, work);
            lessOne(work);
            algebra.minus(work, a, work);
            come(work);
            setTarget(step, unknown);
        }

        private void proveRemainder(Step step) {
            come(unknown);
            work.copy(b);
            lessOne(work);
            algebra.minus(work, unknown, work);
            come(work);
            setTarget(step, unknown);
        }

        private void proveMaking(Step step) {
            come(a);
            number.setConstant(1);
            algebra.plus(a, number, work);
            algebra.minus(cells, work, cells);
            show(cells, step.place);
            setTarget(step, unknown);
            work.copy(unknown);
            lessOne(work);
            come(work);
        }

        private void proveCall(Step step) {
            Method called = program.methodAt(step.goals[0]);
            int params = Math.min(called.params, Method.PARAMS);
            for (int k = 0; k < params; k++) {
                readAtom(step, k, inputs[k]);
            }
            inputs[params].copy(unknown);
            for (int i = 0; i < called.needs.size() && faultKind == 0; i++) {
                algebra.put(called.needs.get(i), inputs, work);
                show(work, step.place);
            }
            algebra.put(called.steps, inputs, work);
            algebra.minus(steps, work, steps);
            show(steps, step.place);
            algebra.put(called.cells, inputs, work);
            algebra.minus(cells, work, cells);
            show(cells, step.place);
            for (int i = 0; i < called.gives.size() && faultKind == 0; i++) {
                algebra.put(called.gives.get(i), inputs, work);
                come(work);
            }
            setTarget(step, unknown);
        }

        private void proveJump(Step jump) {
            if (jump.kind == Step.GO) {
                proveGoal(jump, 0);
            } else if (jump.kind == Step.CHOOSE) {
                int before = hypCount;
                readAtom(jump, 0, a);
                readAtom(jump, 1, b);
                comeRelation(jump.relation);
                proveGoal(jump, 0);
                hypCount = before;
                comeRelation(opposite(jump.relation));
                proveGoal(jump, 1);
            } else if (jump.kind == Step.GIVE_BACK) {
                proveReturn(jump);
            }
        }

        private static int opposite(int relation) {
            switch (relation) {
                case '<':
                    return Tokens.AT_LEAST;
                case '>':
                    return Tokens.AT_MOST;
                case Tokens.AT_MOST:
                    return '>';
                case Tokens.AT_LEAST:
                    return '<';
                case Tokens.EQUAL:
                    return Tokens.UNLIKE;
                default:
                    return Tokens.EQUAL;
            }
        }

        private void comeRelation(int relation) {
            boolean greater = relation == '>' || relation == Tokens.AT_LEAST || relation == Tokens.EQUAL;
            boolean smaller = relation == '<' || relation == Tokens.AT_MOST || relation == Tokens.EQUAL;
            if (greater) {
                comeDifference(a, b, relation == '>');
            }
            if (smaller) {
                comeDifference(b, a, relation == '<');
            }
        }

        private void comeDifference(Poly more, Poly less, boolean strict) {
            algebra.minus(more, less, work);
            if (strict) {
                lessOne(work);
            }
            come(work);
        }

        private void proveGoal(Step jump, int k) {
            Block goal = goalOf(jump, k);
            for (int i = 0; i < goal.keeps.size() && faultKind == 0; i++) {
                algebra.put(goal.keeps.get(i), values, work);
                show(work, jump.place);
            }
            algebra.put(goal.leftSteps, values, work);
            algebra.minus(steps, work, work);
            show(work, jump.place);
            algebra.put(goal.leftCells, values, work);
            algebra.minus(cells, work, work);
            show(work, jump.place);
        }

        private void proveReturn(Step jump) {
            Method method = block.method;
            int params = Math.min(method.params, Method.PARAMS);
            for (int k = 0; k < params; k++) {
                inputs[k].copy(values[k]);
            }
            readAtom(jump, 0, inputs[params]);
            for (int i = 0; i < method.gives.size() && faultKind == 0; i++) {
                algebra.put(method.gives.get(i), inputs, work);
                show(work, jump.place);
            }
        }
    }

    /** Runs a method, and counts. */
    static final class Machine {
        static final int ENDED = 0;
        static final int STEPS = 1;
        static final int CELLS = 2;
        static final int CALLS = 3;
        static final int MOST_OPEN = 4;
        static final int PLACE = 5;
        static final int WHY = 6;
        static final int ARRAYS = 7;
        static final int READS = 8;
        static final int OPEN_LIMIT = 30;
        static final int STEP_LIMIT = 20_000;
        static final int CELL_LIMIT = 5_000;
        private static final int RETURNED = 0;
        private static final int FAILED = 1;
        private static final int CUT = 2;
        private static final int NOTHING = 0;
        private static final int CALL_BEGAN = 1;
        private static final int BLOCK_BEGAN = 2;
        private static final int CALL_ENDED = 3;

        /** What about() tells of the latest run. */
        final int[] facts = new int[9];
        /** What the latest call that ended returned; 0 behind a run that did not. */
        long answer = 0;

        private Program program = new Program();
        private long[] given = new long[0];
        private int givenSize = 0;
        private Audit audit = null;
        private boolean running = false;
        private int event = NOTHING;
        private int open = 0;
        /** Of each call that is open its block, the statement that is next, and the values of its names. */
        private final Block[] blocks = new Block[OPEN_LIMIT];
        private final int[] spots = new int[OPEN_LIMIT];
        private final long[] values = new long[OPEN_LIMIT * Method.NAMES];
        private final long[] inputs = new long[Method.PARAMS];
        /** ARRAY k takes the cells from starts[k] up to starts[k + 1]. */
        private int[] starts = new int[16];
        private long[] heap = new long[64];

        Machine() {
            Block none = new Block(new Method(), 0, true);
            for (int k = 0; k < blocks.length; k++) {
                blocks[k] = none;
            }
        }

        boolean hasCell(int k, int i) {
            return isArray(k) && i >= 0 && i < starts[k + 1] - starts[k];
        }

        /** Cell i of ARRAY k, where hasCell(k, i). */
        long cellAt(int k, int i) {
            return heap[starts[k] + i];
        }

        void go(Program taken, int m, long[] params, long[] ints, int intCount, Audit watcher) {
            program = taken;
            given = ints;
            givenSize = intCount;
            audit = watcher;
            System.arraycopy(params, 0, inputs, 0, inputs.length);
            begin();
            openCall(program.methodAt(m));
            tell();
            for (int turn = 0; turn < STEP_LIMIT && running && open > 0; turn++) {
                int spot = spots[open - 1];
                Block block = blocks[open - 1];
                facts[STEPS]++;
                if (spot < block.steps.size()) {
                    doStatement(block.steps.get(spot));
                } else {
                    doJump(block.jump);
                }
                tell();
            }
            end();
        }

        private void begin() {
            Arrays.fill(facts, 0);
            facts[PLACE] = NONE;
            facts[WHY] = NONE;
            answer = 0;
            open = 0;
            starts[1] = 0;
            running = true;
            if (audit != null) {
                audit.begin();
            }
        }

        private void end() {
            if (running) {
                facts[ENDED] = CUT;
            }
            if (facts[ENDED] != RETURNED) {
                answer = 0;
            }
            for (int call = open - 1; call >= 0 && audit != null; call--) {
                audit.callEnds(call, facts);
            }
        }

        /** Tells the audit, if there is one, what the latest step began or ended. */
        private void tell() {
            int top = open - 1;
            if (audit != null && event == CALL_ENDED) {
                audit.callReturns(open, answer);
                audit.callEnds(open, facts);
            } else if (audit != null && event != NOTHING && top >= 0) {
                Block block = blocks[top];
                Method method = block.method;
                int from = top * Method.NAMES;
                if (event == CALL_BEGAN) {
                    audit.callBegins(top, method, values);
                    audit.claim(method.needs, method.steps, method.cells, values, from, facts);
                } else {
                    audit.claim(block.keeps, block.leftSteps, block.leftCells, values, from, facts);
                }
            }
            event = NOTHING;
        }

        /** The params' values are in inputs. */
        private void openCall(Method method) {
            if (open >= OPEN_LIMIT || method.blocks.isEmpty()) {
                running = false;
                return;
            }
            int from = open * Method.NAMES;
            for (int k = 0; k < Method.NAMES; k++) {
                values[from + k] = k < method.params && k < inputs.length ? inputs[k] : 0;
            }
            blocks[open] = method.blocks.get(0);
            spots[open] = 0;
            open++;
            facts[CALLS]++;
            facts[MOST_OPEN] = Math.max(facts[MOST_OPEN], open);
            event = CALL_BEGAN;
        }

        private void breakOff(int why, Step step) {
            facts[ENDED] = FAILED;
            facts[WHY] = why;
            facts[PLACE] = step.place;
            running = false;
        }

        private long name(int k) {
            int at = (open - 1) * Method.NAMES + k;
            return k >= 0 && k < Method.NAMES && at >= 0 ? values[at] : 0;
        }

        private long atom(Step step, int k) {
            if (k >= step.atoms || k >= Step.ATOMS) {
                return 0;
            }
            return step.atomNames[k] >= 0 ? name(step.atomNames[k]) : step.atomValues[k];
        }

        /** The statement brings this value, and the next one follows. */
        private void bring(Step step, long value) {
            int at = (open - 1) * Method.NAMES + step.target;
            if (at >= 0 && at < values.length) {
                values[at] = value;
            }
            follow();
        }

        private void follow() {
            if (open > 0) {
                spots[open - 1]++;
            }
        }

        private void bringIf(boolean fits, Step step, long value) {
            if (fits) {
                bring(step, value);
            } else {
                breakOff(2, step);
            }
        }

        private void doStatement(Step step) {
            long a = atom(step, 0);
            long b = atom(step, 1);
            switch (step.kind) {
                case Step.SET:
                    bring(step, a);
                    break;
                case Step.ADD:
                    bringIf(Algebra.sumFits(a, b), step, a + b);
                    break;
                case Step.SUBTRACT:
                    bringIf(Algebra.differenceFits(a, b), step, a - b);
                    break;
                case Step.MULTIPLY:
                    bringIf(Algebra.productFits(a, b), step, a * b);
                    break;
                case Step.DIVIDE:
                    bring(step, b == 0 ? 0 : Math.floorDiv(a, b));
                    break;
                case Step.REMAIN:
                    bring(step, b == 0 ? 0 : Math.floorMod(a, b));
                    break;
                case Step.MAKE:
                    makeArray(step, a);
                    break;
                case Step.LENGTH:
                    measure(step, a);
                    break;
                case Step.TAKE:
                    takeGiven(step);
                    break;
                case Step.CALL:
                    doCall(step);
                    break;
                default:
                    doCell(step, a, b);
                    break;
            }
        }

        private void takeGiven(Step step) {
            int at = facts[READS];
            facts[READS]++;
            bring(step, at < givenSize && at < given.length ? given[at] : 0);
        }

        private void measure(Step step, long array) {
            if (isArray(array)) {
                bring(step, starts[(int) array + 1] - starts[(int) array]);
            } else {
                breakOff(3, step);
            }
        }

        private boolean isArray(long k) {
            return k >= 1 && k <= facts[ARRAYS];
        }

        private void makeArray(Step step, long length) {
            if (length < 0 || length >= CELL_LIMIT - facts[CELLS]) {
                breakOff(5, step);
                return;
            }
            int made = facts[ARRAYS] + 1;
            facts[ARRAYS] = made;
            facts[CELLS] += (int) length + 1;
            int from = starts[made];
            int to = from + (int) length;
            if (made + 1 >= starts.length) {
                starts = Arrays.copyOf(starts, 2 * starts.length);
            }
            if (to > heap.length) {
                heap = Arrays.copyOf(heap, Math.max(to, 2 * heap.length));
            }
            starts[made + 1] = to;
            Arrays.fill(heap, from, to, 0);
            bring(step, made);
        }

        private void doCell(Step step, long index, long value) {
            long array = name(step.base);
            if (!isArray(array)) {
                breakOff(3, step);
                return;
            }
            int from = starts[(int) array];
            if (index < 0 || index >= starts[(int) array + 1] - from) {
                breakOff(4, step);
            } else if (step.kind == Step.STORE) {
                heap[from + (int) index] = value;
                follow();
            } else {
                bring(step, heap[from + (int) index]);
            }
        }

        private void doCall(Step step) {
            if (open >= OPEN_LIMIT) {
                breakOff(6, step);
                return;
            }
            for (int k = 0; k < inputs.length; k++) {
                inputs[k] = atom(step, k);
            }
            openCall(program.methodAt(step.goals[0]));
        }

        private void doJump(Step jump) {
            switch (jump.kind) {
                case Step.GO:
                    enter(jump.goals[0]);
                    break;
                case Step.CHOOSE:
                    enter(jump.goals[holds(jump) ? 0 : 1]);
                    break;
                case Step.GIVE_BACK:
                    giveBack(atom(jump, 0));
                    break;
                default:
                    breakOff(1, jump);
                    break;
            }
        }

        private boolean holds(Step jump) {
            long a = atom(jump, 0);
            long b = atom(jump, 1);
            switch (jump.relation) {
                case '<':
                    return a < b;
                case '>':
                    return a > b;
                case Tokens.AT_MOST:
                    return a <= b;
                case Tokens.AT_LEAST:
                    return a >= b;
                case Tokens.EQUAL:
                    return a == b;
                default:
                    return a != b;
            }
        }

        private void enter(int goal) {
            int top = open - 1;
            ArrayList<Block> goals = blocks[top].method.blocks;
            if (goal >= 0 && goal < goals.size()) {
                blocks[top] = goals.get(goal);
                spots[top] = 0;
                event = BLOCK_BEGAN;
            }
        }

        private void giveBack(long value) {
            open--;
            answer = value;
            event = CALL_ENDED;
            if (open == 0) {
                facts[ENDED] = RETURNED;
                running = false;
                return;
            }
            Block block = blocks[open - 1];
            int spot = spots[open - 1];
            if (spot < block.steps.size()) {
                bring(block.steps.get(spot), value);
            }
        }
    }

    /**
     * Looks over a run by exact numbers. Each call and each block that begins claims how many steps and cells are
     * used until the call's end; when that comes, the claims that were made in it are counted that did not hold.
     */
    static final class Audit {
        private static final int SLOT = Method.PARAMS + 1;
        /** More than any run uses, of steps or of cells. */
        private static final int PLENTY = Machine.STEP_LIMIT + 1;
        /** Of 32 bits each: enough for 24 factors of 64 bits, the most that a mono has, many times over. */
        private static final int LIMBS = 64;
        private static final long LIMB = 0xFFFFFFFFL;

        int found = 0;

        private final Algebra algebra;
        private int[] stepEnds = new int[256];
        private int[] cellEnds = new int[256];
        /** 1 for a claim that did not hold when it was made. */
        private int[] wrongs = new int[256];
        private int claims = 0;
        /** Of each call that is open its first claim, its method, and its params with room for its result. */
        private final int[] firsts = new int[Machine.OPEN_LIMIT];
        private final Method[] methods = new Method[Machine.OPEN_LIMIT];
        private final long[] inputs = new long[Machine.OPEN_LIMIT * SLOT];
        /** The values that polys are worked with. */
        private final long[] view = new long[Method.NAMES];
        private final long[] pluses = new long[LIMBS];
        private final long[] minuses = new long[LIMBS];
        private final long[] product = new long[LIMBS];

        Audit(Algebra algebra) {
            this.algebra = algebra;
            Method none = new Method();
            for (int k = 0; k < methods.length; k++) {
                methods[k] = none;
            }
        }

        void begin() {
            found = 0;
            claims = 0;
        }

        void callBegins(int call, Method method, long[] values) {
            int from = call * Method.NAMES;
            if (call >= 0 && call < methods.length && from + SLOT <= values.length) {
                firsts[call] = claims;
                methods[call] = method;
                System.arraycopy(values, from, inputs, call * SLOT, SLOT);
            }
        }

        /** These are 0 or more, it is told, and no more steps and cells than these are used from now on. */
        void claim(ArrayList<Poly> conds, Poly steps, Poly cells, long[] values, int from, int[] facts) {
            if (claims == stepEnds.length) {
                stepEnds = Arrays.copyOf(stepEnds, 2 * claims);
                cellEnds = Arrays.copyOf(cellEnds, 2 * claims);
                wrongs = Arrays.copyOf(wrongs, 2 * claims);
            }
            if (from >= 0 && from + view.length <= values.length) {
                System.arraycopy(values, from, view, 0, view.length);
                wrongs[claims] = anyBelow(conds) ? 1 : 0;
                stepEnds[claims] = facts[Machine.STEPS] + clamped(steps);
                cellEnds[claims] = facts[Machine.CELLS] + clamped(cells);
                claims++;
            }
        }

        void callReturns(int call, long value) {
            if (call < 0 || call >= methods.length) {
                return;
            }
            Method method = methods[call];
            Arrays.fill(view, 0);
            System.arraycopy(inputs, call * SLOT, view, 0, SLOT);
            view[Math.min(method.params, Method.PARAMS)] = value;
            if (anyBelow(method.gives)) {
                wrongs[firsts[call]] = 1;
            }
        }

        void callEnds(int call, int[] facts) {
            if (call < 0 || call >= firsts.length) {
                return;
            }
            for (int k = firsts[call]; k < claims; k++) {
                if (wrongs[k] != 0 || facts[Machine.STEPS] > stepEnds[k] || facts[Machine.CELLS] > cellEnds[k]) {
                    found++;
                }
            }
            claims = firsts[call];
        }

        private boolean anyBelow(ArrayList<Poly> conds) {
            boolean below = false;
            for (int i = 0; i < conds.size() && !below; i++) {
                below = clamped(conds.get(i)) < 0;
            }
            return below;
        }

        /** What the poly is worth, exactly; but -1 for all below 0, and PLENTY for all above it. */
        private int clamped(Poly poly) {
            long worth = algebra.worth(poly, view);
            if (!algebra.beyond) {
                return (int) Math.max(-1, Math.min(PLENTY, worth));
            }
            Arrays.fill(pluses, 0);
            Arrays.fill(minuses, 0);
            for (int k = 0; k < poly.size; k++) {
                boolean negative = poly.coefs[k] < 0;
                Arrays.fill(product, 0);
                product[0] = Math.abs(poly.coefs[k]);
                for (int s = 0; s < view.length; s++) {
                    int power = poly.power(k, s);
                    for (int turn = 0; turn < power; turn++) {
                        multiply(Math.abs(view[s]));
                        negative = negative != view[s] < 0;
                    }
                }
                addTo(negative ? minuses : pluses);
            }
            return difference();
        }

        /** Multiplies product by a factor, of which all 64 bits count (the lowest long has no positive of its own). */
        private void multiply(long factor) {
            long low = factor & LIMB;
            long high = factor >>> 32;
            long carryLow = 0;
            long carryHigh = 0;
            long before = 0;
            for (int i = 0; i < LIMBS; i++) {
                long here = product[i];
                long byLow = here * low + carryLow;
                long byHigh = before * high + (byLow & LIMB) + carryHigh;
                carryLow = byLow >>> 32;
                carryHigh = byHigh >>> 32;
                product[i] = byHigh & LIMB;
                before = here;
            }
        }

        private void addTo(long[] sum) {
            long carry = 0;
            for (int i = 0; i < LIMBS && i < sum.length; i++) {
                long limb = sum[i] + product[i] + carry;
                sum[i] = limb & LIMB;
                carry = limb >>> 32;
            }
        }

        private int difference() {
            long borrow = 0;
            boolean plenty = false;
            long lowest = 0;
            for (int i = 0; i < LIMBS; i++) {
                long limb = pluses[i] - minuses[i] - borrow;
                borrow = limb < 0 ? 1 : 0;
                if (i == 0) {
                    lowest = limb & LIMB;
                } else {
                    plenty = plenty || (limb & LIMB) != 0;
                }
            }
            return borrow != 0 ? -1 : plenty || lowest > PLENTY ? PLENTY : (int) lowest;
        }
    }
}
