import java.util.Arrays;

/** Exact fractions of any length in one pool of limbs; ../shared/DOC.md says what each call promises. */
public final class FractionPool {
    public static final int NONE = -1;

    private static final int REGISTERS = 32;
    private static final int LEAST_ROOM = 64;
    private static final int MOST_ROOM = 1024;
    private static final int MOST_POWER = 1000;
    private static final int MOST_BITS = 1024;
    private static final int MOST_SHIFT = 4000;
    private static final int MOST_TYPED = 400;

    private static final long MASK = 0xFFFFFFFFL;

    private final int room;
    private final Registers registers;
    private final Bench bench;
    private final Typed typed;
    private final Printed printed;
    private final Ratio left;
    private final Ratio right;
    private final Ratio result;
    private Ratio total;
    private Ratio nextTotal;

    public FractionPool(int room) {
        this.room = room >= LEAST_ROOM && room <= MOST_ROOM ? room : MOST_ROOM;
        int width = widthFor(this.room);
        registers = new Registers(this.room);
        bench = new Bench(width);
        typed = new Typed();
        printed = new Printed(this.room);
        left = new Ratio(width);
        right = new Ratio(width);
        result = new Ratio(width);
        total = new Ratio(width);
        nextTotal = new Ratio(width);
    }

    public int set(int r, long n, long d) throws IndexOutOfBoundsException, ArithmeticException, UnsupportedOperationException {
        needRegister(r);
        if (d == 0) {
            throw new ArithmeticException("the denominator is 0");
        }
        // Math.abs leaves the least long as it is, and read without a sign that is its size.
        result.top.becomeLong(Math.abs(n));
        result.bottom.becomeLong(Math.abs(d));
        bench.reduceBoth(result.top, result.bottom);
        result.sign = Long.signum(n) * Long.signum(d);
        return registers.keep(r, result);
    }

    public int copy(int to, int a) throws IndexOutOfBoundsException, UnsupportedOperationException {
        needRegister(to);
        needRegister(a);
        registers.load(a, left);
        return registers.keep(to, left);
    }

    public int swap(int a, int b) throws IndexOutOfBoundsException {
        needRegister(a);
        needRegister(b);
        registers.exchange(a, b);
        return registers.needOf(a);
    }

    public int add(int to, int a, int b) throws IndexOutOfBoundsException, UnsupportedOperationException {
        loadBoth(to, a, b);
        bench.sumOf(result, left, right);
        return registers.keep(to, result);
    }

    public int subtract(int to, int a, int b) throws IndexOutOfBoundsException, UnsupportedOperationException {
        loadBoth(to, a, b);
        right.sign = -right.sign;
        bench.sumOf(result, left, right);
        return registers.keep(to, result);
    }

    public int multiply(int to, int a, int b) throws IndexOutOfBoundsException, UnsupportedOperationException {
        loadBoth(to, a, b);
        bench.productOf(result, left, right);
        return registers.keep(to, result);
    }

    public int divide(int to, int a, int b) throws IndexOutOfBoundsException, ArithmeticException, UnsupportedOperationException {
        loadBoth(to, a, b);
        if (right.sign == 0) {
            throw new ArithmeticException("division by 0");
        }
        right.turnOver();
        bench.productOf(result, left, right);
        return registers.keep(to, result);
    }

    public int power(int to, int a, int n) throws IndexOutOfBoundsException, IllegalArgumentException, ArithmeticException, UnsupportedOperationException {
        needRegister(to);
        needRegister(a);
        if (n < -MOST_POWER || n > MOST_POWER) {
            throw new IllegalArgumentException("the exponent is not -1000 .. 1000");
        }
        registers.load(a, left);
        if (left.sign == 0 && n < 0) {
            throw new ArithmeticException("a power of 0 below 0");
        }
        if (n < 0) {
            left.turnOver();
        }
        int times = Math.abs(n);
        if (!bench.raise(result.top, left.top, times, room) || !bench.raise(result.bottom, left.bottom, times, room)) {
            throw new UnsupportedOperationException("the power alone is beyond the room");
        }
        // Lowest terms stay lowest in a power, so nothing is left to be reduced.
        result.sign = signOfPower(left.sign, times);
        return registers.keep(to, result);
    }

    public int dot(int to, int a, int b, int n) throws IndexOutOfBoundsException, IllegalArgumentException, UnsupportedOperationException {
        needRegister(to);
        needRegister(a);
        needRegister(b);
        if (n > REGISTERS - a || n > REGISTERS - b) {
            throw new IndexOutOfBoundsException("the products go beyond the last register");
        }
        if (n < 0) {
            throw new IllegalArgumentException("fewer than 0 products");
        }
        total.becomeZero();
        for (int k = 0; k < n; k++) {
            registers.load(a + k, left);
            registers.load(b + k, right);
            bench.productOf(result, left, right);
            bench.sumOf(nextTotal, total, result);
            Ratio usedUp = total;
            total = nextTotal;
            nextTotal = usedUp;
        }
        return registers.keep(to, total);
    }

    public int floor(int to, int a) throws IndexOutOfBoundsException, UnsupportedOperationException {
        needRegister(to);
        needRegister(a);
        registers.load(a, left);
        left.top.divideBy(left.bottom, result.top);
        if (left.sign < 0 && left.top.size > 0) {
            result.top.scale(1, 1);
        }
        result.bottom.becomeLong(1);
        result.sign = result.top.size == 0 ? 0 : left.sign;
        return registers.keep(to, result);
    }

    public int round(int to, int a, int p) throws IndexOutOfBoundsException, IllegalArgumentException, UnsupportedOperationException {
        needRegister(to);
        needRegister(a);
        if (p < 1 || p > MOST_BITS) {
            throw new IllegalArgumentException("the bits are not 1 .. 1024");
        }
        registers.load(a, left);
        if (left.sign == 0) {
            return registers.keep(to, left);
        }
        bench.nearestMultiple(result, left, bench.exponentOf(left) - p + 1);
        return registers.keep(to, result);
    }

    public int align(int to, int a, int e) throws IndexOutOfBoundsException, IllegalArgumentException, UnsupportedOperationException {
        needRegister(to);
        needRegister(a);
        if (e < -MOST_SHIFT || e > MOST_SHIFT) {
            throw new IllegalArgumentException("the exponent is not -4000 .. 4000");
        }
        registers.load(a, left);
        bench.nearestMultiple(result, left, e);
        return registers.keep(to, result);
    }

    public int compare(int a, int b) throws IndexOutOfBoundsException {
        needRegister(a);
        needRegister(b);
        registers.load(a, left);
        registers.load(b, right);
        if (left.sign != right.sign) {
            return Integer.compare(left.sign, right.sign);
        }
        result.top.productOf(left.top, right.bottom);
        result.bottom.productOf(right.top, left.bottom);
        return left.sign * result.top.against(result.bottom);
    }

    public int sign(int a) throws IndexOutOfBoundsException {
        needRegister(a);
        return registers.signOf(a);
    }

    public int length(int a, boolean denominator) throws IndexOutOfBoundsException {
        needRegister(a);
        return registers.bitsOf(a, denominator);
    }

    public int limb(int a, boolean denominator, int k) throws IndexOutOfBoundsException {
        needRegister(a);
        if (k < 0) {
            throw new IndexOutOfBoundsException("a limb before the lowest");
        }
        return registers.limbOf(a, denominator, k);
    }

    public int used() {
        return registers.taken;
    }

    public boolean type(long eight) {
        return typed.take(eight);
    }

    public int read(int r) throws IndexOutOfBoundsException, IllegalArgumentException, UnsupportedOperationException {
        // The text is used up and judged even when the register is none.
        typed.judge();
        needRegister(r);
        if (typed.latestFault != NONE) {
            throw new IllegalArgumentException("the text is no number");
        }
        typed.numberInto(result);
        bench.reduceBoth(result.top, result.bottom);
        return registers.keep(r, result);
    }

    public int fault() {
        return typed.latestFault;
    }

    public int print(int a) throws IndexOutOfBoundsException {
        needRegister(a);
        registers.load(a, left);
        printed.write(left);
        return printed.count();
    }

    public int character(int i) {
        return printed.at(i);
    }

    /**
     * Enough for all that is in between: a sum of products has each register's limbs at most twice
     * over, and a rounding moves a register up by 4000 bits, or up to 1024 bits more than it has.
     */
    private static int widthFor(int room) {
        return 2 * room + 192;
    }

    private static void needRegister(int r) {
        if (r < 0 || r >= REGISTERS) {
            throw new IndexOutOfBoundsException("there is no such register");
        }
    }

    private void loadBoth(int to, int a, int b) {
        needRegister(to);
        needRegister(a);
        needRegister(b);
        registers.load(a, left);
        registers.load(b, right);
    }

    private static int signOfPower(int sign, int times) {
        if (times == 0) {
            return 1;
        }
        return (times & 1) == 0 ? sign * sign : sign;
    }

    /** A whole number from 0 on, in a row of limbs that is used again and again. */
    private static final class Whole {
        final int[] limbs;
        int size;

        Whole(int width) {
            limbs = new int[Math.max(width, 2)];
        }

        /** Each row is longer than any call can need; this stands so that no index ever leaves one. */
        private void claim(int count) {
            if (count > limbs.length) {
                throw new UnsupportedOperationException("a row is too short");
            }
        }

        private void trim() {
            while (size > 0 && limbs[size - 1] == 0) {
                size--;
            }
        }

        /** Zeros up to the count, until the next trim. */
        private void widen(int count) {
            claim(count);
            if (count > size) {
                Arrays.fill(limbs, size, count, 0);
                size = count;
            }
        }

        boolean isOne() {
            return size == 1 && limbs[0] == 1;
        }

        boolean isOdd() {
            return size > 0 && (limbs[0] & 1) != 0;
        }

        long at(int i) {
            return i >= 0 && i < size ? limbs[i] & MASK : 0;
        }

        int bits() {
            return size == 0 ? 0 : 32 * size - Integer.numberOfLeadingZeros(limbs[size - 1]);
        }

        /** How many of the lowest bits are 0; of 0 itself there are none. */
        int lowZeros() {
            for (int i = 0; i < size; i++) {
                if (limbs[i] != 0) {
                    return 32 * i + Integer.numberOfTrailingZeros(limbs[i]);
                }
            }
            return 0;
        }

        /** 64 bits from the bit on. */
        long bitsFrom(int bit) {
            int i = bit >>> 5;
            int part = bit & 31;
            long low = at(i) | at(i + 1) << 32;
            // A shift by 64 would be none at all, so the third limb is moved in two.
            return low >>> part | at(i + 2) << 32 << (32 - part);
        }

        int against(Whole other) {
            if (size != other.size) {
                return size < other.size ? -1 : 1;
            }
            for (int i = size - 1; i >= 0; i--) {
                if (limbs[i] != other.limbs[i]) {
                    return (limbs[i] & MASK) < (other.limbs[i] & MASK) ? -1 : 1;
                }
            }
            return 0;
        }

        void becomeLong(long value) {
            limbs[0] = (int) value;
            limbs[1] = (int) (value >>> 32);
            size = 2;
            trim();
        }

        void become(Whole other) {
            claim(other.size);
            System.arraycopy(other.limbs, 0, limbs, 0, other.size);
            size = other.size;
        }

        void becomePart(int[] row, int from, int count) {
            claim(count);
            System.arraycopy(row, from, limbs, 0, count);
            size = count;
        }

        void plus(Whole other) {
            int count = Math.max(size, other.size);
            claim(count + 1);
            long carry = 0;
            for (int i = 0; i < count; i++) {
                carry += at(i) + other.at(i);
                limbs[i] = (int) carry;
                carry >>>= 32;
            }
            limbs[count] = (int) carry;
            size = count + 1;
            trim();
        }

        /** The smaller one must not be above the larger one; either may be this. */
        void differenceOf(Whole larger, Whole smaller) {
            int count = larger.size;
            claim(count);
            long borrow = 0;
            for (int i = 0; i < count; i++) {
                borrow += larger.at(i) - smaller.at(i);
                limbs[i] = (int) borrow;
                borrow >>= 32;
            }
            size = count;
            trim();
        }

        /** Neither a nor b may be this. */
        void productOf(Whole a, Whole b) {
            int count = a.size + b.size;
            claim(count);
            Arrays.fill(limbs, 0, count, 0);
            for (int i = 0; i < a.size; i++) {
                addMultiple(b, a.limbs[i] & MASK, i);
            }
            size = count;
            trim();
        }

        private void addMultiple(Whole other, long factor, int from) {
            claim(from + other.size + 1);
            long carry = 0;
            for (int i = 0; i < other.size; i++) {
                carry += factor * (other.limbs[i] & MASK) + (limbs[from + i] & MASK);
                limbs[from + i] = (int) carry;
                carry >>>= 32;
            }
            limbs[from + other.size] = (int) carry;
        }

        /** This times the factor plus the addend, both below 2^31. */
        void scale(int factor, int addend) {
            claim(size + 1);
            long carry = addend;
            for (int i = 0; i < size; i++) {
                carry += factor * (limbs[i] & MASK);
                limbs[i] = (int) carry;
                carry >>>= 32;
            }
            limbs[size] = (int) carry;
            size++;
            trim();
        }

        void shiftUp(int by) {
            if (by <= 0 || size == 0) {
                return;
            }
            int whole = by >>> 5;
            int part = by & 31;
            claim(size + whole + 1);
            for (int i = size; i >= 0; i--) {
                limbs[i + whole] = (int) ((at(i) << 32 | at(i - 1)) << part >>> 32);
            }
            Arrays.fill(limbs, 0, whole, 0);
            size += whole + 1;
            trim();
        }

        void shiftDown(int by) {
            if (by <= 0) {
                return;
            }
            int whole = by >>> 5;
            int part = by & 31;
            int count = Math.max(0, size - whole);
            for (int i = 0; i < count; i++) {
                limbs[i] = (int) ((at(i + whole + 1) << 32 | at(i + whole)) >>> part);
            }
            size = count;
            trim();
        }

        /** This becomes the quotient by a divisor of 1 .. 2^32 - 1, and the rest is answered. */
        long divideByLimb(long divisor) {
            long rest = 0;
            for (int i = size - 1; i >= 0; i--) {
                long pair = rest << 32 | limbs[i] & MASK;
                long quotient = quotientOf(pair, divisor);
                limbs[i] = (int) quotient;
                rest = pair - quotient * divisor;
            }
            trim();
            return rest;
        }

        /**
         * This becomes the rest. The divisor is moved up, so that its highest bit is set as the guess
         * of a limb needs it, and back again. All three are different rows.
         */
        void divideBy(Whole divisor, Whole quotient) {
            quotient.size = 0;
            if (divisor.size == 0 || against(divisor) < 0) {
                return;
            }
            if (divisor.size == 1) {
                quotient.become(this);
                becomeLong(quotient.divideByLimb(divisor.limbs[0] & MASK));
                return;
            }
            int by = Integer.numberOfLeadingZeros(divisor.limbs[divisor.size - 1]);
            divisor.shiftUp(by);
            shiftUp(by);
            claim(size + 1);
            limbs[size] = 0;
            int count = size - divisor.size + 1;
            quotient.claim(count);
            for (int place = count - 1; place >= 0; place--) {
                long guess = guessLimb(divisor, place);
                if (takeMultiple(divisor, guess, place)) {
                    guess--;
                    giveBack(divisor, place);
                }
                quotient.limbs[place] = (int) guess;
            }
            quotient.size = count;
            quotient.trim();
            size = divisor.size;
            trim();
            shiftDown(by);
            divisor.shiftDown(by);
        }

        /** The limb of the quotient at the place, or 1 more, seldom enough that giving back is cheap. */
        private long guessLimb(Whole divisor, int place) {
            int end = place + divisor.size;
            if (divisor.size < 2 || end >= limbs.length) {
                return 0;
            }
            long first = divisor.limbs[divisor.size - 1] & MASK;
            long second = divisor.limbs[divisor.size - 2] & MASK;
            long high = limbs[end] & MASK;
            long pair = high << 32 | limbs[end - 1] & MASK;
            long third = limbs[end - 2] & MASK;
            long guess = high >= first ? MASK : quotientOf(pair, first);
            long rest = pair - guess * first;
            for (int i = 0; i < 2 && rest <= MASK && Long.compareUnsigned(guess * second, rest << 32 | third) > 0; i++) {
                guess--;
                rest += first;
            }
            return guess;
        }

        /** Whether more was taken than there was. */
        private boolean takeMultiple(Whole divisor, long factor, int place) {
            int end = place + divisor.size;
            claim(end + 1);
            long carry = 0;
            for (int i = 0; i < divisor.size; i++) {
                long product = factor * (divisor.limbs[i] & MASK) + carry;
                long left = (limbs[place + i] & MASK) - (product & MASK);
                limbs[place + i] = (int) left;
                carry = (product >>> 32) + (left < 0 ? 1 : 0);
            }
            long left = (limbs[end] & MASK) - carry;
            limbs[end] = (int) left;
            return left < 0;
        }

        private void giveBack(Whole divisor, int place) {
            int end = place + divisor.size;
            claim(end + 1);
            long carry = 0;
            for (int i = 0; i < divisor.size; i++) {
                carry += (limbs[place + i] & MASK) + (divisor.limbs[i] & MASK);
                limbs[place + i] = (int) carry;
                carry >>>= 32;
            }
            limbs[end] += (int) carry;
        }

        /** The dividend is read without a sign; the divisor is 1 .. 2^32 - 1. */
        private static long quotientOf(long dividend, long divisor) {
            if (divisor <= 0) {
                return 0;
            }
            if (dividend >= 0) {
                return dividend / divisor;
            }
            // Half of it has no bit where the sign would be; doubled, the quotient lacks 1 at the most.
            long quotient = (dividend >>> 1) / divisor << 1;
            return dividend - quotient * divisor >= divisor ? quotient + 1 : quotient;
        }
    }

    /** The greatest common divisor, by Lehmer's way: many steps of Euclid at once from the highest bits. */
    private static final class CommonDivisor {
        private static final int WINDOW = 62;
        /** So low that two products of a limb and a factor, and a carry, stay within a long. */
        private static final long MOST_FACTOR = 1L << 30;
        private static final int MOST_STEPS = 64;
        /** Far above the steps that Euclid needs for the longest rows. */
        private static final int MOST_ROUNDS = 1_000_000;

        private Whole large;
        private Whole small;
        private final Whole quotient;
        // large becomes a * large + b * small, and small becomes c * large + d * small.
        private long a;
        private long b;
        private long c;
        private long d;

        CommonDivisor(int width) {
            large = new Whole(width);
            small = new Whole(width);
            quotient = new Whole(width);
        }

        /** The answer stands until the next call; of 0 and another number it is the other number. */
        Whole of(Whole one, Whole other) {
            boolean inOrder = one.against(other) >= 0;
            large.become(inOrder ? one : other);
            small.become(inOrder ? other : one);
            for (int round = 0; round < MOST_ROUNDS && small.size > 0; round++) {
                foreseeSteps();
                if (b != 0) {
                    makeSteps();
                } else {
                    large.divideBy(small, quotient);
                    Whole rest = large;
                    large = small;
                    small = rest;
                }
            }
            return large;
        }

        /** A step counts only when its quotient is the same whatever the bits below the window are. */
        private void foreseeSteps() {
            int from = Math.max(0, large.bits() - WINDOW);
            long high = large.bitsFrom(from);
            long low = small.bitsFrom(from);
            a = 1;
            b = 0;
            c = 0;
            d = 1;
            for (int step = 0; step < MOST_STEPS; step++) {
                if (low + c <= 0 || low + d <= 0) {
                    return;
                }
                long times = (high + a) / (low + c);
                if (times != (high + b) / (low + d) || times > MOST_FACTOR) {
                    return;
                }
                long nextC = a - times * c;
                long nextD = b - times * d;
                if (Math.abs(nextC) > MOST_FACTOR || Math.abs(nextD) > MOST_FACTOR) {
                    return;
                }
                a = c;
                b = d;
                c = nextC;
                d = nextD;
                long rest = high - times * low;
                high = low;
                low = rest;
            }
        }

        private void makeSteps() {
            int count = large.size;
            small.widen(count);
            long first = 0;
            long second = 0;
            for (int i = 0; i < count; i++) {
                long x = large.limbs[i] & MASK;
                long y = small.limbs[i] & MASK;
                first += a * x + b * y;
                second += c * x + d * y;
                large.limbs[i] = (int) first;
                small.limbs[i] = (int) second;
                first >>= 32;
                second >>= 32;
            }
            large.trim();
            small.trim();
        }
    }

    /** A fraction that is worked on: its sign, and the sizes of its numerator and its denominator. */
    private static final class Ratio {
        int sign;
        Whole top;
        Whole bottom;

        Ratio(int width) {
            top = new Whole(width);
            bottom = new Whole(width);
        }

        void becomeZero() {
            sign = 0;
            top.becomeLong(0);
            bottom.becomeLong(1);
        }

        void turnOver() {
            Whole turned = top;
            top = bottom;
            bottom = turned;
        }

        /** The multiple of 2^e, in lowest terms. */
        void becomeMultiple(Whole times, int e) {
            top.become(times);
            bottom.becomeLong(1);
            if (e >= 0) {
                top.shiftUp(e);
            } else if (times.size > 0) {
                int common = Math.min(-e, times.lowZeros());
                top.shiftDown(common);
                bottom.shiftUp(-e - common);
            }
        }
    }

    /** The arithmetic of fractions; what is worked on is used up. */
    private static final class Bench {
        private final CommonDivisor divisor;
        private final Whole common;
        private final Whole spare;
        private final Whole rest;

        Bench(int width) {
            divisor = new CommonDivisor(width);
            common = new Whole(width);
            spare = new Whole(width);
            rest = new Whole(width);
        }

        private void reduce(Whole number, Whole by) {
            if (by.isOne()) {
                return;
            }
            rest.become(number);
            rest.divideBy(by, number);
        }

        void reduceBoth(Whole one, Whole other) {
            Whole by = divisor.of(one, other);
            reduce(one, by);
            reduce(other, by);
        }

        /** Divides before it multiplies, and so needs no common divisor of anything long. */
        void productOf(Ratio product, Ratio x, Ratio y) {
            reduceBoth(x.top, y.bottom);
            reduceBoth(y.top, x.bottom);
            product.top.productOf(x.top, y.top);
            product.bottom.productOf(x.bottom, y.bottom);
            product.sign = x.sign * y.sign;
        }

        /** What the sum's numerator shares with its denominator divides what the two denominators share. */
        void sumOf(Ratio sum, Ratio x, Ratio y) {
            common.become(divisor.of(x.bottom, y.bottom));
            reduce(x.bottom, common);
            reduce(y.bottom, common);
            sum.top.productOf(x.top, y.bottom);
            spare.productOf(y.top, x.bottom);
            sum.sign = addSpare(sum.top, x.sign, y.sign);
            Whole shared = divisor.of(sum.top, common);
            reduce(sum.top, shared);
            reduce(common, shared);
            spare.productOf(x.bottom, y.bottom);
            sum.bottom.productOf(spare, common);
        }

        /** Adds the spare row, with a sign of its own, to a number with its sign: the sign of the sum. */
        private int addSpare(Whole number, int sign, int spareSign) {
            if (sign == spareSign) {
                number.plus(spare);
                return sign;
            }
            int order = number.against(spare);
            if (order < 0) {
                number.differenceOf(spare, number);
                return spareSign;
            }
            number.differenceOf(number, spare);
            return order == 0 ? 0 : sign;
        }

        /**
         * False when the power is surely beyond the room. It has more bits than the base's bits less 1,
         * times the exponent, and so what is made here is at most 1000 bits longer than the room.
         */
        boolean raise(Whole power, Whole base, int times, int room) {
            if ((base.bits() - 1) * times >= 32 * room) {
                return false;
            }
            power.becomeLong(1);
            for (int bit = 31 - Integer.numberOfLeadingZeros(times); bit >= 0; bit--) {
                spare.productOf(power, power);
                power.become(spare);
                if ((times >>> bit & 1) != 0) {
                    spare.productOf(power, base);
                    power.become(spare);
                }
            }
            return true;
        }

        /** The e with 2^e not above the size of a number that is not 0, and 2^(e + 1) above it. */
        int exponentOf(Ratio x) {
            int e = x.top.bits() - x.bottom.bits();
            spare.become(e >= 0 ? x.bottom : x.top);
            spare.shiftUp(Math.abs(e));
            boolean below = e >= 0 ? x.top.against(spare) < 0 : spare.against(x.bottom) < 0;
            return below ? e - 1 : e;
        }

        /** The multiple of 2^e that is next to x; of two that are as near, the even one. */
        void nearestMultiple(Ratio multiple, Ratio x, int e) {
            x.bottom.shiftUp(e);
            x.top.shiftUp(-e);
            x.top.divideBy(x.bottom, spare);
            x.top.shiftUp(1);
            int order = x.top.against(x.bottom);
            if (order > 0 || order == 0 && spare.isOdd()) {
                spare.scale(1, 1);
            }
            multiple.becomeMultiple(spare, e);
            multiple.sign = spare.size == 0 ? 0 : x.sign;
        }
    }

    /** What the registers have, block by block in one row without gaps; the blocks stand in any order. */
    private static final class Registers {
        private final int[] pool;
        private final int[] from = new int[REGISTERS];
        private final int[] tops = new int[REGISTERS];
        private final int[] bottoms = new int[REGISTERS];
        private final int[] signs = new int[REGISTERS];
        int taken;

        Registers(int room) {
            pool = new int[Math.max(room, REGISTERS)];
            for (int r = 0; r < REGISTERS; r++) {
                from[r] = r;
                bottoms[r] = 1;
                pool[r] = 1;
            }
            taken = REGISTERS;
        }

        int needOf(int r) {
            return tops[r] + bottoms[r];
        }

        int signOf(int r) {
            return signs[r];
        }

        int bitsOf(int r, boolean denominator) {
            int count = denominator ? bottoms[r] : tops[r];
            if (count == 0) {
                return 0;
            }
            return 32 * count - Integer.numberOfLeadingZeros(limbOf(r, denominator, count - 1));
        }

        int limbOf(int r, boolean denominator, int k) {
            int start = denominator ? from[r] + tops[r] : from[r];
            int count = denominator ? bottoms[r] : tops[r];
            return k >= 0 && k < count ? pool[start + k] : 0;
        }

        void load(int r, Ratio into) {
            into.sign = signs[r];
            into.top.becomePart(pool, from[r], tops[r]);
            into.bottom.becomePart(pool, from[r] + tops[r], bottoms[r]);
        }

        void exchange(int a, int b) {
            exchangeIn(from, a, b);
            exchangeIn(tops, a, b);
            exchangeIn(bottoms, a, b);
            exchangeIn(signs, a, b);
        }

        private static void exchangeIn(int[] row, int a, int b) {
            int kept = row[a];
            row[a] = row[b];
            row[b] = kept;
        }

        int keep(int r, Ratio x) {
            int need = x.top.size + x.bottom.size;
            if (taken - needOf(r) + need > pool.length) {
                throw new UnsupportedOperationException("the registers would need more than the room");
            }
            takeOut(r);
            from[r] = taken;
            tops[r] = x.top.size;
            bottoms[r] = x.bottom.size;
            signs[r] = x.sign;
            System.arraycopy(x.top.limbs, 0, pool, taken, x.top.size);
            System.arraycopy(x.bottom.limbs, 0, pool, taken + x.top.size, x.bottom.size);
            taken += need;
            return need;
        }

        private void takeOut(int r) {
            int gap = needOf(r);
            int behind = from[r] + gap;
            System.arraycopy(pool, behind, pool, from[r], taken - behind);
            for (int other = 0; other < REGISTERS; other++) {
                if (from[other] >= behind) {
                    from[other] -= gap;
                }
            }
            taken -= gap;
        }
    }

    /** The text that is typed, and what is to be said of the latest one that was read. */
    private static final class Typed {
        private static final int START = 0;
        private static final int MINUS = 1;
        private static final int WHOLE = 2;
        private static final int POINT = 3;
        private static final int DECIMALS = 4;
        private static final int SLASH = 5;
        private static final int DENOMINATOR = 6;

        private final char[] characters = new char[MOST_TYPED];
        private int count;
        private int judged;
        int latestFault = NONE;

        boolean take(long eight) {
            int more = 0;
            for (int i = 0; i < 8 && byteOf(eight, i) != 0; i++) {
                if (byteOf(eight, i) < 33 || byteOf(eight, i) > 126) {
                    return false;
                }
                more++;
            }
            if (count + more > MOST_TYPED) {
                return false;
            }
            for (int i = 0; i < more; i++) {
                characters[count + i] = (char) byteOf(eight, i);
            }
            count += more;
            return true;
        }

        private static int byteOf(long eight, int i) {
            return (int) (eight >>> 8 * i) & 255;
        }

        /** Uses the text up; its characters stay for numberInto() until something is typed again. */
        void judge() {
            judged = count;
            latestFault = faultOfText();
            count = 0;
        }

        private int faultOfText() {
            int state = START;
            int slash = 0;
            boolean allZero = true;
            for (int i = 0; i < judged; i++) {
                char c = characters[i];
                state = stateAfter(state, c);
                if (state == NONE) {
                    return i;
                }
                if (state == SLASH) {
                    slash = i;
                }
                if (state == DENOMINATOR && c != '0') {
                    allZero = false;
                }
            }
            if (state == DENOMINATOR) {
                return allZero ? slash : NONE;
            }
            return state == WHOLE || state == DECIMALS ? NONE : judged;
        }

        private static int stateAfter(int state, char c) {
            if (c >= '0' && c <= '9') {
                return stateAfterFigure(state);
            }
            if (c == '-' && state == START) {
                return MINUS;
            }
            if (c == '.' && state == WHOLE) {
                return POINT;
            }
            return c == '/' && state == WHOLE ? SLASH : NONE;
        }

        private static int stateAfterFigure(int state) {
            switch (state) {
                case POINT:
                case DECIMALS:
                    return DECIMALS;
                case SLASH:
                case DENOMINATOR:
                    return DENOMINATOR;
                default:
                    return WHOLE;
            }
        }

        /** Only for a text without a fault; not yet in lowest terms. */
        void numberInto(Ratio number) {
            number.becomeZero();
            boolean point = false;
            Whole part = number.top;
            for (int i = 0; i < judged; i++) {
                char c = characters[i];
                if (c == '.') {
                    point = true;
                } else if (c == '/') {
                    part = number.bottom;
                    part.becomeLong(0);
                } else if (c != '-') {
                    part.scale(10, c - '0');
                    number.bottom.scale(point ? 10 : 1, 0);
                }
            }
            int sign = judged > 0 && characters[0] == '-' ? -1 : 1;
            number.sign = number.top.size == 0 ? 0 : sign;
        }
    }

    /** What was printed latest, at the end of a row, as figures come out lowest first. */
    private static final class Printed {
        private static final int NINE_FIGURES = 1_000_000_000;

        private final char[] row;
        private int from;

        Printed(int room) {
            // A limb is worth less than ten figures; a sign and a stroke come on top.
            row = new char[10 * Math.max(room, 1) + 2];
            from = row.length;
        }

        int count() {
            return row.length - from;
        }

        int at(int i) {
            return i >= 0 && i < count() ? row[from + i] : NONE;
        }

        void write(Ratio x) {
            from = row.length;
            if (!x.bottom.isOne()) {
                putFigures(x.bottom);
                put('/');
            }
            putFigures(x.top);
            if (x.sign < 0) {
                put('-');
            }
        }

        private void putFigures(Whole number) {
            if (number.size == 0) {
                put('0');
            }
            for (int i = 0; i < row.length && number.size > 0; i++) {
                int figures = (int) number.divideByLimb(NINE_FIGURES);
                putNine(figures, number.size > 0);
            }
        }

        private void putNine(int figures, boolean withZeros) {
            int rest = figures;
            for (int i = 0; i < 9 && (withZeros || rest > 0); i++) {
                put((char) ('0' + rest % 10));
                rest /= 10;
            }
        }

        private void put(char c) {
            if (from > 0) {
                from--;
                row[from] = c;
            }
        }
    }
}
