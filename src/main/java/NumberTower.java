import java.util.Arrays;

/**
 * Numbers of three kinds (wholes, ratios and reals) in eight registers, exact where they can be.
 *
 * <p>Every number is held as an exact fraction of two naturals, a real too (its lower part is a
 * power of two), so that each operation is done exactly first and then settled to its kind.
 */
public final class NumberTower {
    /** Nothing there. */
    public static final int NONE = -1;

    private static final int REGISTERS = 8;
    private static final int WHOLE = 0;
    private static final int RATIO = 1;
    private static final int REAL = 2;

    private static final int ADD = 0;
    private static final int SUBTRACT = 1;
    private static final int MULTIPLY = 2;
    private static final int DIVIDE = 3;
    private static final int FLOOR = 4;
    private static final int REST = 5;
    private static final int POWER = 6;
    private static final int AND = 7;
    private static final int OR = 8;
    private static final int SHIFT = 10;

    private static final int LINE_ROOM = 40;
    private static final int LAST_PLACES = 20;

    private final Num[] registers = new Num[REGISTERS];
    private final Num missing = new Num();
    private final Text line = new Text();
    private final Desk desk = new Desk();
    private final Reader reader = new Reader(line);
    private final Spec spec = new Spec(line);
    private final Pen pen = new Pen();

    /** No numbers, an empty line, an empty sheet. */
    public NumberTower() {
        for (int i = 0; i < REGISTERS; i++) {
            registers[i] = new Num();
        }
    }

    /** Appends the bytes of w that are not 0 to the line, the highest first. */
    public boolean write(int w) {
        int more = 0;
        for (int shift = 24; shift >= 0; shift -= 8) {
            int c = (w >>> shift) & 255;
            if (c != 0) {
                if (c < 32 || c > 126) {
                    return false;
                }
                more++;
            }
        }
        if (line.count + more > LINE_ROOM) {
            return false;
        }
        for (int shift = 24; shift >= 0; shift -= 8) {
            int c = (w >>> shift) & 255;
            if (c != 0) {
                line.put(c);
            }
        }
        return true;
    }

    /** The line is empty. */
    public void wipe() {
        line.clear();
    }

    /** The line becomes the number of a register: the number's kind. */
    public int read(int register)
            throws IllegalArgumentException, ArithmeticException, IllegalStateException {
        boolean understood = reader.parse(desk.out);
        line.clear();
        if (!understood || !isRegister(register)) {
            throw new IllegalArgumentException("no register, or the line is no number");
        }
        if (desk.out.low.isZero()) {
            throw new ArithmeticException("a lower part 0");
        }
        desk.finishReading(reader.tens);
        return keep(register);
    }

    /** A register gets the WHOLE v; false if there is no such register. */
    public boolean whole(int register, long v) {
        if (!isRegister(register)) {
            return false;
        }
        desk.out.setWhole(v);
        keep(register);
        return true;
    }

    /** A register gets the REAL v; false if there is no such register or v is no REAL. */
    public boolean real(int register, double v) {
        double amount = v < 0.0 ? -v : v;
        double limit = (double) (1L << 50) * (double) (1L << 50);
        boolean isReal = amount == 0.0 || amount >= 1.0 / limit && amount < limit;
        if (!isReal || !isRegister(register)) {
            return false;
        }
        desk.out.setReal(v < 0.0 ? -1 : 1, amount);
        keep(register);
        return true;
    }

    /** Register to gets operation op of a and b: its kind. */
    public int combine(int op, int a, int b, int to)
            throws IllegalArgumentException, ArithmeticException, IllegalStateException {
        Num x = numberAt(a);
        Num y = numberAt(b);
        if (!isRegister(to) || !x.isThere() || !y.isThere() || !takes(op, x, y)) {
            throw new IllegalArgumentException("no such operation on these registers");
        }
        if (op >= DIVIDE && op <= REST && y.sign == 0) {
            throw new ArithmeticException("divided by 0");
        }
        if (op == POWER) {
            desk.raise(x, y.small());
        } else if (op == SHIFT) {
            desk.shift(x, y.small());
        } else if (op >= AND) {
            desk.mix(op, x, y);
        } else {
            desk.reckon(op, x, y);
        }
        return keep(to);
    }

    /** Register to gets x^y modulo m, of the WHOLES in these registers: its kind. */
    public int power(int x, int y, int m, int to)
            throws IllegalArgumentException, ArithmeticException {
        Num base = numberAt(x);
        Num exponent = numberAt(y);
        Num modulus = numberAt(m);
        boolean wholes = base.kindNow == WHOLE && modulus.kindNow == WHOLE;
        if (!isRegister(to) || !wholes || modulus.sign <= 0 || !exponent.isWholeWithin(-999, 999)) {
            throw new IllegalArgumentException("no such power of these registers");
        }
        if (!desk.raiseModulo(base, exponent.small(), modulus.up)) {
            throw new ArithmeticException("no number times x is 1 modulo m");
        }
        return keep(to);
    }

    /** Register to gets turn what of a: its kind. */
    public int turn(int what, int a, int to)
            throws IllegalArgumentException, IllegalStateException {
        Num x = numberAt(a);
        if (what < 0 || what > 4 || !isRegister(to) || !x.isThere()) {
            throw new IllegalArgumentException("no such turn of this register");
        }
        desk.turnTo(what, x);
        return keep(to);
    }

    /** Register to gets a rounded to n places: its kind. */
    public int round(int a, int n, int to)
            throws IllegalArgumentException, IllegalStateException {
        Num x = numberAt(a);
        if (n < -LAST_PLACES || n > LAST_PLACES || !isRegister(to) || !x.isThere()) {
            throw new IllegalArgumentException("no such rounding of this register");
        }
        desk.roundTo(x, n);
        return keep(to);
    }

    /** Register to gets the NEAREST of the exact sum of a set of registers: its kind. */
    public int sum(int set, int to) throws IllegalArgumentException, IllegalStateException {
        if (set < 0 || set > 255 || !isRegister(to) || holdsRatio(set)) {
            throw new IllegalArgumentException("no such sum");
        }
        desk.startSum();
        for (int i = 0; i < REGISTERS; i++) {
            if ((set >> i & 1) != 0 && registers[i].isThere()) {
                desk.addToSum(registers[i]);
            }
        }
        desk.finishSum();
        return keep(to);
    }

    /** -1, 0, 1 as a is less than, worth as much as, more than b; 2 if there is nothing to compare. */
    public int compare(int a, int b) {
        Num x = numberAt(a);
        Num y = numberAt(b);
        if (!x.isThere() || !y.isThere()) {
            return 2;
        }
        return desk.orderOf(x, y);
    }

    /** The HASH of a; 0 if it has no number. */
    public long hash(int a) {
        Num x = numberAt(a);
        return x.isThere() ? desk.hashOf(x) : 0L;
    }

    /** The sheet becomes the number as in SHOWING: how many characters. */
    public int show(int a) throws IllegalArgumentException {
        Num x = numberAt(a);
        if (!x.isThere()) {
            throw new IllegalArgumentException("no number to show");
        }
        pen.showNumber(x);
        return pen.sheet.count;
    }

    /** The sheet becomes the number by the SPEC that the line is: how many characters. */
    public int format(int a) throws IllegalArgumentException {
        Num x = numberAt(a);
        boolean understood = spec.parse();
        line.clear();
        if (!x.isThere() || !understood || !spec.suits(x.kindNow)) {
            throw new IllegalArgumentException("no number, or no SPEC for it");
        }
        pen.formatNumber(x, spec);
        return pen.sheet.count;
    }

    /** The code of character k of the sheet; NONE if there is none. */
    public int letter(int k) {
        return pen.sheet.at(k);
    }

    /** The kind of a; NONE if it has no number. */
    public int kind(int a) {
        return numberAt(a).kindNow;
    }

    /** The REAL in a; 0.0 if it has none. */
    public double value(int a) {
        Num x = numberAt(a);
        return x.kindNow == REAL ? x.worth() : 0.0;
    }

    /** Sixty bits of the amount of a part of a WHOLE or a RATIO; NONE if there is none. */
    public long part(int a, boolean below, int k) {
        Num x = numberAt(a);
        if (!x.isThere() || x.kindNow == REAL || k < 0 || k > 1) {
            return NONE;
        }
        return below ? x.low.sixtyBits(k) : x.up.sixtyBits(k);
    }

    private static boolean isRegister(int register) {
        return register >= 0 && register < REGISTERS;
    }

    private Num numberAt(int register) {
        return isRegister(register) ? registers[register] : missing;
    }

    private int keep(int to) {
        if (!isRegister(to)) {
            return NONE;
        }
        registers[to].become(desk.out);
        return desk.out.kindNow;
    }

    private static boolean takes(int op, Num x, Num y) {
        if (op < ADD || op > SHIFT) {
            return false;
        }
        if (op < POWER) {
            return true;
        }
        if (op == POWER) {
            return y.isWholeWithin(0, 40);
        }
        boolean wholes = x.kindNow == WHOLE && y.kindNow == WHOLE;
        return wholes && (op != SHIFT || y.isWholeWithin(-120, 120));
    }

    private boolean holdsRatio(int set) {
        for (int i = 0; i < REGISTERS; i++) {
            if ((set >> i & 1) != 0 && registers[i].kindNow == RATIO) {
                return true;
            }
        }
        return false;
    }

    /**
     * A natural number in limbs of 30 bits, the lowest first. Those from count on are 0. The room of
     * 480 bits is above all that the operations need (less than 400), so what would be cut off at
     * its end never is anything.
     */
    static final class Natural {
        private static final int LIMBS = 16;
        private static final int WIDTH = 30;
        private static final int MASK = (1 << WIDTH) - 1;
        private static final int NINE_TENS = 1_000_000_000;

        final int[] limbs = new int[LIMBS];
        int count;

        Natural() {
        }

        void clear() {
            Arrays.fill(limbs, 0);
            count = 0;
        }

        /** Becomes v, read without a sign. */
        void set(long v) {
            clear();
            limbs[0] = (int) (v & MASK);
            limbs[1] = (int) (v >>> WIDTH & MASK);
            limbs[2] = (int) (v >>> 2 * WIDTH);
            trim(3);
        }

        void copyFrom(Natural other) {
            System.arraycopy(other.limbs, 0, limbs, 0, LIMBS);
            count = other.count;
        }

        boolean isZero() {
            return count == 0;
        }

        boolean isOne() {
            return count == 1 && limbs[0] == 1;
        }

        boolean isOdd() {
            return (limbs[0] & 1) != 0;
        }

        /** Bits 60 * k to 60 * k + 59, k 0 or 1. */
        long sixtyBits(int k) {
            int at = k == 1 ? 2 : 0;
            return limbs[at] | (long) limbs[at + 1] << WIDTH;
        }

        /** The number itself, if it is below 2^63. */
        long toLong() {
            return sixtyBits(0) | (long) limbs[2] << 2 * WIDTH;
        }

        /** Exact where no more than 53 bits in a row matter. */
        double toDouble() {
            double d = 0.0;
            for (int i = LIMBS - 1; i >= 0; i--) {
                d = d * (double) (1 << WIDTH) + (double) limbs[i];
            }
            return d;
        }

        int bits() {
            if (count <= 0 || count > LIMBS) {
                return 0;
            }
            return (count - 1) * WIDTH + bitsOf(limbs[count - 1]);
        }

        /** How many bits v has, which is not below 0. */
        static int bitsOf(long v) {
            long filled = v | v >> 1;
            filled |= filled >> 2;
            filled |= filled >> 4;
            filled |= filled >> 8;
            filled |= filled >> 16;
            filled |= filled >> 32;
            return Long.bitCount(filled);
        }

        /** -1, 0, 1: less than, the same as, more than the other one. */
        int order(Natural other) {
            if (count != other.count) {
                return count < other.count ? -1 : 1;
            }
            for (int i = Math.min(count, LIMBS) - 1; i >= 0; i--) {
                if (limbs[i] != other.limbs[i]) {
                    return limbs[i] < other.limbs[i] ? -1 : 1;
                }
            }
            return 0;
        }

        void add(Natural other) {
            int carry = 0;
            int top = Math.max(count, other.count);
            for (int i = 0; i < LIMBS && (i < top || carry != 0); i++) {
                int t = limbs[i] + other.limbs[i] + carry;
                limbs[i] = t & MASK;
                carry = t >>> WIDTH;
            }
            trim(top + 1);
        }

        void addSmall(int more) {
            int carry = more;
            for (int i = 0; i < LIMBS && carry != 0; i++) {
                int t = limbs[i] + carry;
                limbs[i] = t & MASK;
                carry = t >>> WIDTH;
            }
            trim(count + 1);
        }

        /** Takes away the other one, which is not greater. */
        void subtract(Natural other) {
            int borrow = 0;
            for (int i = 0; i < LIMBS && (i < other.count || borrow != 0); i++) {
                int t = limbs[i] - other.limbs[i] + borrow;
                limbs[i] = t & MASK;
                borrow = t >> WIDTH;
            }
            trim(count);
        }

        /** Becomes a * b; neither of them is this one. */
        void setProduct(Natural a, Natural b) {
            clear();
            for (int i = 0; i < a.count && i < LIMBS; i++) {
                long factor = a.limbs[i];
                long carry = 0;
                for (int j = 0; i + j < LIMBS && (j < b.count || carry != 0); j++) {
                    long t = limbs[i + j] + factor * b.limbs[j] + carry;
                    limbs[i + j] = (int) (t & MASK);
                    carry = t >>> WIDTH;
                }
            }
            trim(a.count + b.count);
        }

        /** Times factor and more, both below 2^30. */
        void scale(int factor, int more) {
            long carry = more;
            int top = count;
            for (int i = 0; i < LIMBS && (i < top || carry != 0); i++) {
                long t = (long) limbs[i] * factor + carry;
                limbs[i] = (int) (t & MASK);
                carry = t >>> WIDTH;
            }
            trim(top + 1);
        }

        /** Times 10^n. */
        void scaleTens(int n) {
            int left = n;
            for (int i = 0; i < LIMBS && left >= 9; i++) {
                scale(NINE_TENS, 0);
                left -= 9;
            }
            for (int i = 0; i < 9 && left > 0; i++) {
                scale(10, 0);
                left--;
            }
        }

        void shiftUp(int by) {
            if (by <= 0 || isZero()) {
                return;
            }
            int jump = by / WIDTH;
            int bits = by % WIDTH;
            int top = Math.min(LIMBS - 1, count + jump);
            for (int i = top; i >= 0; i--) {
                int from = i - jump;
                long high = from >= 0 && from < LIMBS ? limbs[from] : 0;
                long low = from >= 1 && from <= LIMBS ? limbs[from - 1] : 0;
                limbs[i] = (int) ((high << bits | low >> WIDTH - bits) & MASK);
            }
            trim(top + 1);
        }

        void shiftDown(int by) {
            if (by <= 0) {
                return;
            }
            int jump = Math.min(LIMBS, by / WIDTH);
            int bits = by % WIDTH;
            for (int i = 0; i < count && i < LIMBS; i++) {
                int from = i + jump;
                long low = from < LIMBS ? limbs[from] : 0;
                long high = from + 1 < LIMBS ? limbs[from + 1] : 0;
                limbs[i] = (int) ((low >> bits | high << WIDTH - bits) & MASK);
            }
            trim(count);
        }

        /** Becomes what it is by divisor (1 .. 2^30 - 1); the rest is answered. */
        int divideSmall(int divisor) {
            if (divisor <= 0) {
                return 0;
            }
            long rest = 0;
            for (int i = Math.min(count, LIMBS) - 1; i >= 0; i--) {
                long t = rest << WIDTH | limbs[i];
                limbs[i] = (int) (t / divisor);
                rest = t % divisor;
            }
            trim(count);
            return (int) rest;
        }

        /**
         * Becomes the rest by the divisor, quotient gets how often that goes. The three are not the
         * same one. Long division limb by limb: the divisor is shifted up so that its top limb is at
         * least half of what a limb holds, which makes each guess of a limb at most two too great.
         */
        void divide(Natural divisor, Natural quotient) {
            quotient.clear();
            if (divisor.isZero() || count >= LIMBS || order(divisor) < 0) {
                return;
            }
            if (count <= 2) {
                long amount = sixtyBits(0);
                long by = divisor.sixtyBits(0);
                if (by > 0) {
                    quotient.set(amount / by);
                    set(amount % by);
                }
                return;
            }
            int shift = (WIDTH - divisor.bits() % WIDTH) % WIDTH;
            divisor.shiftUp(shift);
            shiftUp(shift);
            int most = Math.min(count, LIMBS - 1) - divisor.count;
            for (int at = most; at >= 0; at--) {
                quotient.limbs[at] = takeAway(divisor, at);
            }
            quotient.trim(most + 1);
            trim(LIMBS);
            shiftDown(shift);
            divisor.shiftDown(shift);
        }

        /** Takes the divisor, shifted up by limbs, away as often as it goes: how often. */
        private int takeAway(Natural divisor, int by) {
            int top = by + divisor.count;
            if (by < 0 || divisor.count <= 0 || top >= LIMBS) {
                return 0;
            }
            long head = (long) limbs[top] << WIDTH | limbs[top - 1];
            int first = divisor.limbs[divisor.count - 1];
            long times = first <= 0 ? 0 : Math.min(head / first, MASK);
            long carry = 0;
            for (int i = 0; i <= divisor.count && by + i < LIMBS; i++) {
                long t = limbs[by + i] - times * divisor.limbs[i] + carry;
                limbs[by + i] = (int) (t & MASK);
                carry = t >> WIDTH;
            }
            for (int tries = 0; tries < 3 && carry < 0; tries++) {
                times--;
                int back = 0;
                for (int i = 0; i <= divisor.count && by + i < LIMBS; i++) {
                    int t = limbs[by + i] + divisor.limbs[i] + back;
                    limbs[by + i] = t & MASK;
                    back = t >>> WIDTH;
                }
                carry += back;
            }
            return (int) times;
        }

        /** Rounds this quotient to the nearest one, of two to the even one; the rest is used up. */
        void roundBy(Natural rest, Natural divisor) {
            rest.shiftUp(1);
            int half = rest.order(divisor);
            if (half > 0 || half == 0 && isOdd()) {
                addSmall(1);
            }
        }

        /** Finds the count again, which is at most most. */
        void trim(int most) {
            int n = most < LIMBS ? most : LIMBS;
            for (int i = n; i > 0 && limbs[i - 1] == 0; i--) {
                n--;
            }
            count = n;
        }
    }

    /** A number, or none: a sign and two parts in lowest terms, the lower one of a REAL 2^k. */
    static final class Num {
        int kindNow = NONE;
        int sign;
        final Natural up = new Natural();
        final Natural low = new Natural();

        Num() {
        }

        boolean isThere() {
            return kindNow != NONE;
        }

        void become(Num other) {
            kindNow = other.kindNow;
            sign = other.sign;
            up.copyFrom(other.up);
            low.copyFrom(other.low);
        }

        void setWhole(long v) {
            kindNow = WHOLE;
            sign = Long.compare(v, 0L);
            up.set(v < 0 ? -v : v);
            low.set(1);
        }

        /** Becomes the REAL of this amount, which is one. */
        void setReal(int newSign, double amount) {
            double a = amount;
            int exponent = 0;
            for (int i = 0; i < 60 && a >= (double) (1L << 53); i++) {
                a = a / 2.0;
                exponent++;
            }
            for (int i = 0; i < 160 && a > 0.0 && a < (double) (1L << 52); i++) {
                a = a * 2.0;
                exponent--;
            }
            setBinary(newSign, (long) a, exponent);
        }

        /** Becomes the REAL m * 2^exponent, in lowest terms. */
        void setBinary(int newSign, long m, int exponent) {
            kindNow = REAL;
            sign = m == 0 ? 0 : newSign;
            low.set(1);
            if (m == 0) {
                up.clear();
                return;
            }
            int twos = Long.bitCount((m & -m) - 1);
            up.set(m >> twos);
            up.shiftUp(exponent + twos);
            low.shiftUp(-(exponent + twos));
        }

        /** Whether this is a WHOLE from least to most, which are small. */
        boolean isWholeWithin(int least, int most) {
            return kindNow == WHOLE && up.count <= 1 && small() >= least && small() <= most;
        }

        /** A WHOLE of one limb. */
        int small() {
            return sign * up.limbs[0];
        }

        /** What a REAL is worth, exactly. */
        double worth() {
            double lower = low.toDouble();
            if (sign == 0 || lower < 1.0) {
                return 0.0;
            }
            double amount = up.toDouble() / lower;
            return sign < 0 ? -amount : amount;
        }
    }

    /** Where numbers are worked out: what comes is in out, and changes no register. */
    static final class Desk {
        private static final int MOST_BITS = 120;
        private static final int KEPT_BITS = 53;
        private static final int LEAST_REAL = -100;
        private static final int MOST_REAL = 99;
        /** No REAL has a bit below 2^-152. */
        private static final int SUM_PLACES = 152;
        private static final int EUCLID_STEPS = 1000;
        private static final long HASH_MODULUS = (1L << 61) - 1;
        private static final long HASH_WITHOUT_INVERSE = 314159;
        /** Behind these many tens no line of 40 characters is a REAL but 0.0. */
        private static final int MOST_TENS = 40;
        private static final int LEAST_TENS = -80;

        final Num out = new Num();
        private final Num left = new Num();
        private final Num right = new Num();
        private final Natural quotient = new Natural();
        private final Natural first = new Natural();
        private final Natural second = new Natural();
        private final Natural third = new Natural();
        private final Natural fourth = new Natural();
        private final Natural spare = new Natural();
        private final Natural base = new Natural();
        private final Natural modulus = new Natural();

        Desk() {
        }

        /** out becomes operation 0 .. 5 of x and y. */
        void reckon(int op, Num x, Num y) {
            int kindOut = Math.max(x.kindNow, y.kindNow);
            left.become(x);
            right.become(y);
            if (kindOut == REAL) {
                makeNearestUnlessReal(left);
                makeNearestUnlessReal(right);
            }
            if (op == ADD || op == SUBTRACT) {
                addParts(op == ADD ? right.sign : -right.sign);
            } else if (op == MULTIPLY) {
                setParts(left.up, right.up, left.low, right.low);
            } else if (op == DIVIDE) {
                setParts(left.up, right.low, left.low, right.up);
                kindOut = kindOut == WHOLE ? REAL : kindOut;
            } else if (op == FLOOR) {
                floorAndRest();
                out.up.copyFrom(quotient);
                out.low.set(1);
                kindOut = kindOut == RATIO ? WHOLE : kindOut;
            } else {
                floorAndRest();
                out.up.copyFrom(first);
                out.low.setProduct(left.low, right.low);
                out.sign = right.sign;
            }
            settle(kindOut);
        }

        private void setParts(Natural a, Natural b, Natural c, Natural d) {
            out.up.setProduct(a, b);
            out.low.setProduct(c, d);
            out.sign = left.sign * right.sign;
        }

        private void addParts(int rightSign) {
            first.setProduct(left.up, right.low);
            second.setProduct(right.up, left.low);
            out.low.setProduct(left.low, right.low);
            if (left.sign * rightSign >= 0) {
                first.add(second);
                out.up.copyFrom(first);
                out.sign = left.sign != 0 ? left.sign : rightSign;
            } else {
                subtractAmounts(left.sign);
            }
        }

        /** out's upper part and sign become those of first less second, first having this sign. */
        private void subtractAmounts(int firstSign) {
            if (first.order(second) >= 0) {
                first.subtract(second);
                out.up.copyFrom(first);
                out.sign = firstSign;
            } else {
                second.subtract(first);
                out.up.copyFrom(second);
                out.sign = -firstSign;
            }
        }

        /**
         * quotient becomes the amount of the floor of left by right (out has its sign), first the
         * upper part of the rest's amount, of which the lower one is that of left times right.
         */
        private void floorAndRest() {
            first.setProduct(left.up, right.low);
            second.setProduct(left.low, right.up);
            first.divide(second, quotient);
            out.sign = left.sign * right.sign;
            if (out.sign < 0 && !first.isZero()) {
                quotient.addSmall(1);
                second.subtract(first);
                first.copyFrom(second);
            }
        }

        /** Of wholes and ratios the parts of powers stay in lowest terms by themselves. */
        void raise(Num x, int y) {
            right.become(x);
            out.setWhole(1);
            out.kindNow = x.kindNow;
            for (int i = 0; i < y; i++) {
                left.become(out);
                setParts(left.up, right.up, left.low, right.low);
                if (x.kindNow == REAL) {
                    settle(REAL);
                } else {
                    refuseBeyond(out);
                }
            }
        }

        /** A number below 0 is, bit by bit, the complement of its amount less 1. */
        void mix(int op, Num x, Num y) {
            int turnX = loadForBits(x, first);
            int turnY = loadForBits(y, second);
            int turnOut = mixBits(op, turnX, turnY);
            out.setWhole(0);
            for (int i = 0; i < Natural.LIMBS; i++) {
                int bits = mixBits(op, first.limbs[i] ^ turnX, second.limbs[i] ^ turnY);
                out.up.limbs[i] = bits ^ turnOut;
            }
            out.up.trim(Natural.LIMBS);
            if (turnOut != 0) {
                out.up.addSmall(1);
            }
            out.sign = turnOut != 0 ? -1 : 1;
            settle(WHOLE);
        }

        /** The bits by which each limb is turned round. */
        private static int loadForBits(Num x, Natural into) {
            into.copyFrom(x.up);
            if (x.sign >= 0) {
                return 0;
            }
            lessOne(into);
            return Natural.MASK;
        }

        private static void lessOne(Natural n) {
            boolean borrow = !n.isZero();
            for (int i = 0; i < Natural.LIMBS && borrow; i++) {
                borrow = n.limbs[i] == 0;
                n.limbs[i] = n.limbs[i] - 1 & Natural.MASK;
            }
            n.trim(n.count);
        }

        private static int mixBits(int op, int a, int b) {
            if (op == AND) {
                return a & b;
            }
            return op == OR ? a | b : a ^ b;
        }

        void shift(Num x, int by) {
            out.become(x);
            if (by >= 0) {
                out.up.shiftUp(by);
            } else if (x.sign >= 0) {
                out.up.shiftDown(-by);
            } else {
                lessOne(out.up);
                out.up.shiftDown(-by);
                out.up.addSmall(1);
            }
            settle(WHOLE);
        }

        /** out becomes x^y modulo m; false if y is below 0 and x has no inverse modulo m. */
        boolean raiseModulo(Num x, int y, Natural m) {
            modulus.copyFrom(m);
            base.copyFrom(x.up);
            base.divide(modulus, quotient);
            if (x.sign < 0 && !base.isZero()) {
                first.copyFrom(modulus);
                first.subtract(base);
                base.copyFrom(first);
            }
            if (y < 0 && !invertBase()) {
                return false;
            }
            out.setWhole(1);
            out.up.divide(modulus, quotient);
            int times = Math.abs(y);
            for (int bit = 9; bit >= 0; bit--) {
                multiplyModulo(out.up);
                if ((times >> bit & 1) != 0) {
                    multiplyModulo(base);
                }
            }
            out.sign = out.up.isZero() ? 0 : 1;
            return true;
        }

        /** out's upper part becomes itself times factor, modulo the modulus. */
        private void multiplyModulo(Natural factor) {
            first.setProduct(out.up, factor);
            first.divide(modulus, quotient);
            out.up.copyFrom(first);
        }

        /**
         * base becomes the number that times base is 1 modulo the modulus; false if there is none.
         * Euclid's steps: what base was taken times in them is kept in t, for the step before in s,
         * as amounts, since their signs alternate.
         */
        private boolean invertBase() {
            Natural a = first;
            Natural b = second;
            Natural s = third;
            Natural t = fourth;
            a.copyFrom(modulus);
            b.copyFrom(base);
            s.clear();
            t.set(1);
            boolean below = true;
            for (int i = 0; i < EUCLID_STEPS && !b.isZero(); i++) {
                a.divide(b, quotient);
                spare.setProduct(quotient, t);
                s.add(spare);
                Natural swap = a;
                a = b;
                b = swap;
                swap = s;
                s = t;
                t = swap;
                below = !below;
            }
            if (!a.isOne()) {
                return false;
            }
            base.copyFrom(s);
            if (below && !s.isZero()) {
                base.copyFrom(modulus);
                base.subtract(s);
            }
            return true;
        }

        void turnTo(int what, Num x) {
            out.become(x);
            switch (what) {
                case 0:
                    out.up.divide(out.low, quotient);
                    out.up.copyFrom(quotient);
                    out.low.set(1);
                    settle(WHOLE);
                    break;
                case 1:
                    out.kindNow = RATIO;
                    refuseBeyond(out);
                    break;
                case 2:
                    makeNearest(out);
                    break;
                case 3:
                    out.sign = -out.sign;
                    break;
                default:
                    out.sign = Math.abs(out.sign);
                    break;
            }
        }

        void roundTo(Num x, int n) {
            int places = x.kindNow == WHOLE ? Math.min(n, 0) : n;
            out.become(x);
            out.up.scaleTens(places);
            out.low.scaleTens(-places);
            out.up.divide(out.low, quotient);
            quotient.roundBy(out.up, out.low);
            out.up.copyFrom(quotient);
            out.low.set(1);
            out.low.scaleTens(places);
            out.up.scaleTens(-places);
            settle(x.kindNow);
        }

        void startSum() {
            first.clear();
            second.clear();
        }

        /** Adds a WHOLE or a REAL to first, or its amount to second if it is below 0. */
        void addToSum(Num x) {
            third.copyFrom(x.up);
            third.shiftUp(SUM_PLACES - (x.low.bits() - 1));
            if (x.sign > 0) {
                first.add(third);
            } else {
                second.add(third);
            }
        }

        void finishSum() {
            subtractAmounts(1);
            out.low.set(1);
            out.low.shiftUp(SUM_PLACES);
            settle(REAL);
        }

        int orderOf(Num x, Num y) {
            if (x.sign != y.sign) {
                return x.sign < y.sign ? -1 : 1;
            }
            first.setProduct(x.up, y.low);
            second.setProduct(y.up, x.low);
            return first.order(second) * x.sign;
        }

        /** The modulus is a prime: without an inverse are its multiples alone. */
        long hashOf(Num x) {
            modulus.set(HASH_MODULUS);
            base.copyFrom(x.low);
            base.divide(modulus, quotient);
            long amount = HASH_WITHOUT_INVERSE;
            if (invertBase()) {
                first.copyFrom(x.up);
                first.divide(modulus, quotient);
                second.setProduct(first, base);
                second.divide(modulus, quotient);
                amount = second.toLong();
            }
            long signed = x.sign * amount;
            return signed == -1 ? -2 : signed;
        }

        /** out holds what was read, but for the tens that a REAL is still to be multiplied by. */
        void finishReading(int tens) {
            if (out.kindNow == REAL && !out.up.isZero()) {
                if (tens > MOST_TENS || tens < LEAST_TENS) {
                    throw new IllegalStateException("BEYOND");
                }
                out.up.scaleTens(tens);
                out.low.scaleTens(-tens);
            }
            settle(out.kindNow);
        }

        /** out becomes a number of this kind, worth the same or, of a REAL, its NEAREST. */
        private void settle(int kindOut) {
            if (out.up.isZero()) {
                out.sign = 0;
            }
            if (kindOut == REAL) {
                makeNearest(out);
                return;
            }
            out.kindNow = kindOut;
            if (kindOut == RATIO) {
                reduceOut();
            }
            refuseBeyond(out);
        }

        private static void refuseBeyond(Num x) {
            if (x.up.bits() > MOST_BITS || x.low.bits() > MOST_BITS) {
                throw new IllegalStateException("BEYOND");
            }
        }

        private void reduceOut() {
            Natural a = first;
            Natural b = second;
            a.copyFrom(out.up);
            b.copyFrom(out.low);
            for (int i = 0; i < EUCLID_STEPS && !b.isZero(); i++) {
                a.divide(b, quotient);
                Natural swap = a;
                a = b;
                b = swap;
            }
            if (!a.isOne()) {
                out.up.divide(a, quotient);
                out.up.copyFrom(quotient);
                out.low.divide(a, quotient);
                out.low.copyFrom(quotient);
            }
        }

        private void makeNearestUnlessReal(Num x) {
            if (x.kindNow != REAL) {
                makeNearest(x);
            }
        }

        /** Divides with one or two bits more than are kept, by which it is rounded. */
        private void makeNearest(Num x) {
            if (x.up.isZero()) {
                x.setBinary(0, 0L, 0);
                return;
            }
            int places = KEPT_BITS + 1 - (x.up.bits() - x.low.bits());
            x.up.shiftUp(places);
            x.low.shiftUp(-places);
            x.up.divide(x.low, quotient);
            long q = quotient.toLong();
            int dropped = Natural.bitsOf(q) - KEPT_BITS;
            long kept = q >> dropped;
            long rest = 2 * (q - (kept << dropped)) + (x.up.isZero() ? 0 : 1);
            long half = 1L << dropped;
            if (rest > half || rest == half && (kept & 1) != 0) {
                kept++;
            }
            int exponent = dropped - places;
            int topBit = Natural.bitsOf(kept) - 1 + exponent;
            if (topBit < LEAST_REAL || topBit > MOST_REAL) {
                throw new IllegalStateException("BEYOND");
            }
            x.setBinary(x.sign, kept, exponent);
        }
    }

    /** Reads the line as a number. */
    static final class Reader {
        private final Text text;
        private int at;
        /** How many tens the REAL that was read is still to be multiplied by. */
        int tens;

        Reader(Text line) {
            text = line;
        }

        /** Whether the whole line is a number; into has it then, not yet in lowest terms. */
        boolean parse(Num into) {
            at = 0;
            tens = 0;
            into.setWhole(0);
            into.sign = text.at(0) == '-' ? -1 : 1;
            if (text.at(0) == '-' || text.at(0) == '+') {
                at++;
            }
            boolean understood;
            if (text.at(at) == '0' && text.at(at + 1) == 'x') {
                at += 2;
                understood = parseDigits(16, into.up) > 0;
            } else if (text.at(at) == '0' && text.at(at + 1) == 'b') {
                at += 2;
                understood = parseDigits(2, into.up) > 0;
            } else {
                understood = parseDecimal(into);
            }
            return understood && at == text.count;
        }

        private boolean parseDecimal(Num into) {
            int ahead = parseDigits(10, into.up);
            if (text.at(at) == '/') {
                at++;
                into.kindNow = RATIO;
                into.low.clear();
                return ahead > 0 && parseDigits(10, into.low) > 0;
            }
            boolean point = text.at(at) == '.';
            int behind = 0;
            if (point) {
                at++;
                behind = parseDigits(10, into.up);
            }
            if (ahead == 0 && behind == 0) {
                return false;
            }
            boolean withTens = text.at(at) == 'e' || text.at(at) == 'E';
            if (withTens && !parseTens()) {
                return false;
            }
            if (point || withTens) {
                into.kindNow = REAL;
                tens -= behind;
            }
            return true;
        }

        private boolean parseTens() {
            at++;
            boolean below = text.at(at) == '-';
            if (below || text.at(at) == '+') {
                at++;
            }
            int n = 0;
            for (int i = 0; i < 3; i++) {
                int d = digitOf(text.at(at), 10);
                if (d < 0) {
                    tens = below ? -n : n;
                    return i > 0;
                }
                n = n * 10 + d;
                at++;
            }
            tens = below ? -n : n;
            return true;
        }

        /** Reads digits, with single _ between them, behind those that into has: how many. */
        private int parseDigits(int radix, Natural into) {
            int n = 0;
            for (int i = 0; i < LINE_ROOM; i++) {
                if (n > 0 && text.at(at) == '_' && digitOf(text.at(at + 1), radix) >= 0) {
                    at++;
                }
                int d = digitOf(text.at(at), radix);
                if (d < 0) {
                    return n;
                }
                into.scale(radix, d);
                n++;
                at++;
            }
            return n;
        }

        private static int digitOf(int c, int radix) {
            int d = NONE;
            if (c >= '0' && c <= '9') {
                d = c - '0';
            } else if (c >= 'a' && c <= 'f') {
                d = c - 'a' + 10;
            } else if (c >= 'A' && c <= 'F') {
                d = c - 'A' + 10;
            }
            return d < radix ? d : NONE;
        }
    }

    /** The parts of a SPEC; those that it does not have are 0 (the precision NONE). */
    static final class Spec {
        private static final int MOST_WIDTH = 40;

        private final Text text;
        private int at;
        int fill;
        int align;
        int signMark;
        boolean alternate;
        boolean zero;
        int width;
        int parting;
        int precision;
        int type;

        Spec(Text line) {
            text = line;
        }

        /** Whether the whole line is a SPEC. */
        boolean parse() {
            at = 0;
            parseAlign();
            signMark = take('+') ? '+' : take('-') ? '-' : take(' ') ? ' ' : 0;
            alternate = take('#');
            zero = take('0');
            width = text.at(at) == '0' ? 0 : Math.max(0, parseNumber());
            parting = take(',') ? ',' : take('_') ? '_' : 0;
            precision = NONE;
            if (take('.')) {
                precision = parseNumber();
                if (precision < 0 || precision > LAST_PLACES) {
                    return false;
                }
            }
            parseType();
            return width <= MOST_WIDTH && at == text.count;
        }

        private void parseAlign() {
            fill = 0;
            align = 0;
            if (isAlign(text.at(1))) {
                fill = text.at(0);
                align = text.at(1);
                at = 2;
            } else if (isAlign(text.at(0))) {
                align = text.at(0);
                at = 1;
            }
        }

        private static boolean isAlign(int c) {
            return c == '<' || c == '>' || c == '=' || c == '^';
        }

        private boolean take(int c) {
            if (text.at(at) != c) {
                return false;
            }
            at++;
            return true;
        }

        /** One or two digits; NONE if there are none. */
        private int parseNumber() {
            int n = NONE;
            for (int i = 0; i < 2 && text.at(at) >= '0' && text.at(at) <= '9'; i++) {
                n = Math.max(n, 0) * 10 + text.at(at) - '0';
                at++;
            }
            return n;
        }

        private void parseType() {
            type = 0;
            switch (text.at(at)) {
                case 'd':
                case 'b':
                case 'x':
                case 'X':
                case 'e':
                case 'E':
                case 'f':
                case 'g':
                case 'G':
                case '%':
                    type = text.at(at);
                    at++;
                    break;
                default:
                    break;
            }
        }

        /** Whether it is a SPEC for numbers of this kind; a missing type is found, too. */
        boolean suits(int kindOfNumber) {
            if (type == 0) {
                type = kindOfNumber == WHOLE ? 'd' : 'g';
            }
            boolean bits = type == 'b' || type == 'x' || type == 'X';
            if (type != 'd' && !bits) {
                return true;
            }
            return kindOfNumber == WHOLE && precision == NONE && !(bits && parting == ',');
        }
    }

    /** Characters, as many as there is room for: a sheet has 160 at most. */
    static final class Text {
        private static final int ROOM = 200;

        final char[] chars = new char[ROOM];
        int count;

        Text() {
        }

        void clear() {
            count = 0;
        }

        int at(int k) {
            return k >= 0 && k < count && k < ROOM ? chars[k] : NONE;
        }

        void put(int c) {
            if (count >= 0 && count < ROOM) {
                chars[count] = (char) c;
                count++;
            }
        }

        void putMany(int c, int times) {
            for (int i = 0; i < times && i < ROOM; i++) {
                put(c);
            }
        }

        /** Puts the characters of another text from one place to before another. */
        void putFrom(Text other, int from, int to) {
            for (int i = from; i < to && i < other.count; i++) {
                put(other.at(i));
            }
        }

        void reverse() {
            for (int i = 0, j = Math.min(count, ROOM) - 1; i < j; i++, j--) {
                char c = chars[i];
                chars[i] = chars[j];
                chars[j] = c;
            }
        }

        /** Takes off zeros at the end, but no more than this many: how many. */
        int dropZeros(int most) {
            int dropped = 0;
            for (int i = 0; i < most && at(count - 1) == '0'; i++) {
                count--;
                dropped++;
            }
            return dropped;
        }
    }

    /** Writes numbers on the sheet. */
    static final class Pen {
        /** One digit more than tells any two REALS apart. */
        private static final int SHOWN_DIGITS = 18;
        private static final long SHOWN_UNIT = 1_000_000_000_000_000_000L;
        private static final int GENERAL_PRECISION = 6;

        final Text sheet = new Text();
        private final Text head = new Text();
        private final Text body = new Text();
        private final Text digits = new Text();
        private final Natural top = new Natural();
        private final Natural bottom = new Natural();
        private final Natural quotient = new Natural();
        private boolean exact;

        Pen() {
        }

        void showNumber(Num x) {
            sheet.clear();
            if (x.sign < 0) {
                sheet.put('-');
            }
            if (x.kindNow == REAL) {
                layReal(x.sign == 0 ? setZero() : setShortestDigits(x));
                return;
            }
            showPart(x.up);
            if (x.kindNow == RATIO && !x.low.isOne()) {
                sheet.put('/');
                showPart(x.low);
            }
        }

        private void showPart(Natural n) {
            top.copyFrom(n);
            setDigits(10, 'a', 1);
            sheet.putFrom(digits, 0, digits.count);
        }

        /** digits become those of top (which is used up), at least so many. */
        private void setDigits(int radix, int ten, int least) {
            digits.clear();
            for (int i = 0; i < Text.ROOM && (i < least || !top.isZero()); i++) {
                int d = top.divideSmall(radix);
                digits.put(d < 10 ? '0' + d : ten + d - 10);
            }
            digits.reverse();
        }

        private int setZero() {
            digits.clear();
            digits.put('0');
            return 0;
        }

        /** Puts the digits with the exponent e on the sheet. */
        private void layReal(int e) {
            if (e < -4 || e > 15) {
                sheet.put(digits.at(0));
                if (digits.count > 1) {
                    sheet.put('.');
                    sheet.putFrom(digits, 1, digits.count);
                }
                putExponent(sheet, e, 'e');
            } else if (e < 0) {
                sheet.put('0');
                sheet.put('.');
                sheet.putMany('0', -e - 1);
                sheet.putFrom(digits, 0, digits.count);
            } else {
                digits.putMany('0', e + 2 - digits.count);
                sheet.putFrom(digits, 0, e + 1);
                sheet.put('.');
                sheet.putFrom(digits, e + 1, digits.count);
            }
        }

        /** No exponent that comes has more than two digits. */
        private static void putExponent(Text to, int e, int mark) {
            int amount = Math.abs(e);
            to.put(mark);
            to.put(e < 0 ? '-' : '+');
            to.put('0' + amount / 10);
            to.put('0' + amount % 10);
        }

        /**
         * digits become the DIGITS of a REAL that is not 0: its EXPONENT. All is done in units of the
         * 18th digit: the amount, and the bounds of what has it as its NEAREST.
         */
        private int setShortestDigits(Num x) {
            int topBit = x.up.bits() - x.low.bits();
            int twos = topBit - 54;
            top.copyFrom(x.up);
            top.shiftUp(55 - x.up.bits());
            top.shiftDown(x.up.bits() - 55);
            long four = top.toLong();
            int e = leastExponent(topBit);
            long middle = scaledFloor(four, twos, SHOWN_DIGITS - 1 - e);
            if (middle >= SHOWN_UNIT) {
                e++;
                middle = scaledFloor(four, twos, SHOWN_DIGITS - 1 - e);
            }
            boolean middleExact = exact;
            boolean even = (four & 4) == 0;
            int tens = SHOWN_DIGITS - 1 - e;
            long step = four == 1L << 54 ? 1 : 2;
            long least = scaledFloor(four - step, twos, tens);
            least += exact && even ? 0 : 1;
            long most = scaledFloor(four + 2, twos, tens);
            most -= exact && !even ? 1 : 0;
            top.set(shortestBetween(least, most, middle, middleExact));
            setDigits(10, 'a', 1);
            e += digits.count - SHOWN_DIGITS;
            digits.dropZeros(SHOWN_DIGITS);
            return e;
        }

        /** The exponent of 10 of an amount from 2^topBit on, or one less than it. */
        private static int leastExponent(int topBit) {
            return Math.floorDiv(topBit * 30103 - 1, 100000);
        }

        /** The floor of n * 2^twos * 10^tens, below 2^63; exact tells whether it is just that. */
        private long scaledFloor(long n, int twos, int tens) {
            top.set(n);
            bottom.set(1);
            top.scaleTens(tens);
            bottom.scaleTens(-tens);
            top.shiftUp(twos);
            bottom.shiftUp(-twos);
            top.divide(bottom, quotient);
            exact = top.isZero();
            return quotient.toLong();
        }

        /** Of the numbers from least to most with the most zeros the nearest to the middle. */
        private static long shortestBetween(long least, long most, long middle, boolean isExact) {
            long unit = SHOWN_UNIT;
            for (int i = 0; i < SHOWN_DIGITS; i++) {
                unit = unit / 10;
                if (unit < 1) {
                    break;
                }
                long below = middle - middle % unit;
                long above = below + unit;
                if (below < least && above <= most) {
                    return above;
                }
                if (below >= least && above > most) {
                    return below;
                }
                if (below >= least) {
                    return nearerOf(below, unit, middle, isExact);
                }
            }
            return middle;
        }

        private static long nearerOf(long below, long unit, long middle, boolean isExact) {
            long twice = 2 * (middle - below);
            if (unit > 0 && twice == unit && isExact) {
                return below / unit % 2 == 0 ? below : below + unit;
            }
            return twice < unit ? below : below + unit;
        }

        void formatNumber(Num x, Spec spec) {
            head.clear();
            body.clear();
            if (x.sign < 0) {
                head.put('-');
            } else if (spec.signMark == '+' || spec.signMark == ' ') {
                head.put(spec.signMark);
            }
            int precision = spec.precision < 0 ? GENERAL_PRECISION : spec.precision;
            switch (spec.type) {
                case 'f':
                    roundScaled(x, precision);
                    setDigits(10, 'a', precision + 1);
                    putFixed(precision, spec);
                    break;
                case '%':
                    roundScaled(x, precision + 2);
                    setDigits(10, 'a', precision + 1);
                    putFixed(precision, spec);
                    body.put('%');
                    break;
                case 'e':
                case 'E':
                    putScientific(setScientificDigits(x, precision), spec);
                    break;
                case 'g':
                case 'G':
                    precision = Math.max(precision, 1);
                    putGeneral(x, precision, setScientificDigits(x, precision - 1), spec);
                    break;
                default:
                    putWhole(x, spec);
                    break;
            }
            laySheet(spec);
        }

        private void putWhole(Num x, Spec spec) {
            int radix = spec.type == 'd' ? 10 : spec.type == 'b' ? 2 : 16;
            top.copyFrom(x.up);
            setDigits(radix, spec.type == 'X' ? 'A' : 'a', 1);
            putGroups(digits.count, radix == 10 ? 3 : 4, spec.parting);
            if (spec.alternate && radix != 10) {
                head.put('0');
                head.put(spec.type);
            }
        }

        /** Puts the first count digits in groups that are counted from the last of them. */
        private void putGroups(int count, int size, int parting) {
            for (int i = 0; i < count; i++) {
                if (parting != 0 && i > 0 && size > 0 && (count - i) % size == 0) {
                    body.put(parting);
                }
                body.put(digits.at(i));
            }
        }

        /** top becomes x's amount times 10^tens, rounded half to even. */
        private void roundScaled(Num x, int tens) {
            top.copyFrom(x.up);
            bottom.copyFrom(x.low);
            top.scaleTens(tens);
            bottom.scaleTens(-tens);
            top.divide(bottom, quotient);
            quotient.roundBy(top, bottom);
            top.copyFrom(quotient);
        }

        /** Puts the digits, so many of them behind the point. */
        private void putFixed(int places, Spec spec) {
            int ahead = digits.count - places;
            putGroups(ahead, 3, spec.parting);
            if (places > 0 || spec.alternate) {
                body.put('.');
            }
            body.putFrom(digits, ahead, digits.count);
        }

        /** digits become the first one and so many places of x, rounded: the exponent then. */
        private int setScientificDigits(Num x, int places) {
            if (x.sign == 0) {
                digits.clear();
                digits.putMany('0', places + 1);
                return 0;
            }
            int e = leastExponent(x.up.bits() - x.low.bits() - 1);
            for (int tries = 0; tries < 4; tries++) {
                roundScaled(x, places - e);
                setDigits(10, 'a', 1);
                if (digits.count <= places + 1) {
                    return e;
                }
                e++;
            }
            return e;
        }

        /** Puts the digits with the exponent e. */
        private void putScientific(int e, Spec spec) {
            body.put(digits.at(0));
            if (digits.count > 1 || spec.alternate) {
                body.put('.');
            }
            body.putFrom(digits, 1, digits.count);
            putExponent(body, e, spec.type == 'E' || spec.type == 'G' ? 'E' : 'e');
        }

        /** digits are the first count ones of x, and e their exponent. */
        private void putGeneral(Num x, int count, int e, Spec spec) {
            if (e < -4 || e >= count) {
                digits.dropZeros(spec.alternate ? 0 : count - 1);
                putScientific(e, spec);
                return;
            }
            int places = count - 1 - e;
            roundScaled(x, places);
            setDigits(10, 'a', places + 1);
            places -= digits.dropZeros(spec.alternate ? 0 : places);
            putFixed(places, spec);
        }

        /** The sheet becomes the head and the body, filled up to the width. */
        private void laySheet(Spec spec) {
            int missing = Math.max(0, spec.width - head.count - body.count);
            int align = spec.align != 0 ? spec.align : spec.zero ? '=' : '>';
            int fill = spec.fill != 0 ? spec.fill : spec.zero ? '0' : ' ';
            int ahead = align == '>' ? missing : align == '^' ? missing / 2 : 0;
            int between = align == '=' ? missing : 0;
            sheet.clear();
            sheet.putMany(fill, ahead);
            sheet.putFrom(head, 0, head.count);
            sheet.putMany(fill, between);
            sheet.putFrom(body, 0, body.count);
            sheet.putMany(fill, missing - ahead - between);
        }
    }
}
