/** The boundary cases of 'What it is' and 'Terms' but for the room, the rounding and the text. */
public final class TermsBoundaryTest extends Boundaries {
    private static final int[] INSIDE = {0, 1, 30, 31};

    private interface At {
        long on(FractionPool pool, int r);
    }

    public static void main(String[] args) throws IllegalAccessException {
        new TermsBoundaryTest().runAll();
    }

    void whatItIsTheLastOf512Calls() {
        FractionPool pool = new FractionPool(64);
        pool.set(1, 1, 1);
        for (int call = 2; call <= 511; call++) {
            pool.add(0, 0, 1);
        }
        same("call 512", Checks.answer(() -> pool.limb(0, false, 0)), "510");
        FractionPool refusing = new FractionPool(64);
        for (int call = 1; call <= 511; call++) {
            Checks.answer(() -> refusing.set(0, 1, 0));
        }
        same("call 512 after refused ones", Checks.answer(() -> refusing.set(31, 3, 6)), "2");
    }

    /** Registers 0, 1, 30 and 31 have 5/3 and register 2 has -1/2; something is printed, and something typed. */
    private static Sight.Maker inside() {
        return made(100, pool -> {
            pool.set(2, -1, 2);
            for (int r : INSIDE) {
                pool.set(r, 5, 3);
            }
            pool.print(2);
            pool.type(Checks.eight("-7/21"));
        });
    }

    private void register(String call, At at, long due) {
        for (int r : INSIDE) {
            answers(call + " for " + r, inside(), pool -> at.on(pool, r), due);
        }
        noRegister(call, at);
    }

    /** A call that makes a fraction for a register: r itself, or the one that is named. */
    private void register(String call, At at, int to, int need, String number) {
        for (int r : INSIDE) {
            makes(call + " for " + r, inside(), pool -> at.on(pool, r), to < 0 ? r : to, need, number);
        }
        noRegister(call, at);
    }

    private void noRegister(String call, At at) {
        for (int r : NO_REGISTERS) {
            refuses(call + " for " + r, inside(), pool -> at.on(pool, r), INDEX);
        }
    }

    void termsRegistersOfSetAndCopyAndSwap() {
        register("set(r, 7, 3)", (pool, r) -> pool.set(r, 7, 3), -1, 2, "7/3");
        register("copy(r, 2)", (pool, r) -> pool.copy(r, 2), -1, 2, "-1/2");
        register("copy(2, r)", (pool, r) -> pool.copy(2, r), 2, 2, "5/3");
        register("swap(r, 2)", (pool, r) -> pool.swap(r, 2), -1, 2, "-1/2");
        register("swap(r, 2)", (pool, r) -> pool.swap(r, 2), 2, 2, "5/3");
        register("swap(2, r)", (pool, r) -> pool.swap(2, r), 2, 2, "5/3");
        register("swap(r, 3)", (pool, r) -> pool.swap(r, 3), -1, 1, "0");
    }

    void termsRegistersOfAddAndSubtract() {
        register("add(r, 2, 2)", (pool, r) -> pool.add(r, 2, 2), -1, 2, "-1");
        register("add(2, r, 2)", (pool, r) -> pool.add(2, r, 2), 2, 2, "7/6");
        register("add(2, 2, r)", (pool, r) -> pool.add(2, 2, r), 2, 2, "7/6");
        register("subtract(r, 3, 2)", (pool, r) -> pool.subtract(r, 3, 2), -1, 2, "1/2");
        register("subtract(2, r, 2)", (pool, r) -> pool.subtract(2, r, 2), 2, 2, "13/6");
        register("subtract(2, 2, r)", (pool, r) -> pool.subtract(2, 2, r), 2, 2, "-13/6");
    }

    void termsRegistersOfMultiplyAndDivide() {
        register("multiply(r, 2, 2)", (pool, r) -> pool.multiply(r, 2, 2), -1, 2, "1/4");
        register("multiply(2, r, 2)", (pool, r) -> pool.multiply(2, r, 2), 2, 2, "-5/6");
        register("multiply(2, 2, r)", (pool, r) -> pool.multiply(2, 2, r), 2, 2, "-5/6");
        register("divide(r, 2, 2)", (pool, r) -> pool.divide(r, 2, 2), -1, 2, "1");
        register("divide(2, r, 2)", (pool, r) -> pool.divide(2, r, 2), 2, 2, "-10/3");
        register("divide(2, 2, r)", (pool, r) -> pool.divide(2, 2, r), 2, 2, "-3/10");
    }

    void termsRegistersOfPowerAndDot() {
        register("power(r, 2, 2)", (pool, r) -> pool.power(r, 2, 2), -1, 2, "1/4");
        register("power(2, r, 2)", (pool, r) -> pool.power(2, r, 2), 2, 2, "25/9");
        register("dot(r, 2, 2, 1)", (pool, r) -> pool.dot(r, 2, 2, 1), -1, 2, "1/4");
        register("dot(2, r, 2, 1)", (pool, r) -> pool.dot(2, r, 2, 1), 2, 2, "-5/6");
        register("dot(2, 2, r, 1)", (pool, r) -> pool.dot(2, 2, r, 1), 2, 2, "-5/6");
    }

    void termsRegistersOfFloorAndRoundAndAlign() {
        register("floor(r, 2)", (pool, r) -> pool.floor(r, 2), -1, 2, "-1");
        register("floor(2, r)", (pool, r) -> pool.floor(2, r), 2, 2, "1");
        register("round(r, 2, 1)", (pool, r) -> pool.round(r, 2, 1), -1, 2, "-1/2");
        register("round(2, r, 1)", (pool, r) -> pool.round(2, r, 1), 2, 2, "2");
        register("align(r, 2, 0)", (pool, r) -> pool.align(r, 2, 0), -1, 1, "0");
        register("align(2, r, 0)", (pool, r) -> pool.align(2, r, 0), 2, 2, "2");
    }

    void termsRegistersOfCallsThatLook() {
        register("compare(r, 2)", (pool, r) -> pool.compare(r, 2), 1);
        register("compare(2, r)", (pool, r) -> pool.compare(2, r), -1);
        register("sign(r)", (pool, r) -> pool.sign(r), 1);
        register("length(r, false)", (pool, r) -> pool.length(r, false), 3);
        register("length(r, true)", (pool, r) -> pool.length(r, true), 2);
        register("limb(r, false, 0)", (pool, r) -> pool.limb(r, false, 0), 5);
        register("limb(r, true, 0)", (pool, r) -> pool.limb(r, true, 0), 3);
        register("print(r)", (pool, r) -> pool.print(r), 3);
    }

    void termsRegistersOfRead() {
        for (int r : INSIDE) {
            makes("read(" + r + ")", inside(), pool -> pool.read(r), r, 2, "-1/3");
        }
        for (int r : NO_REGISTERS) {
            refusesToRead("read(" + r + ")", inside(), r, INDEX, FractionPool.NONE);
        }
    }

    void termsEachRegisterIsAtFirst0() {
        for (int r = 0; r < 32; r++) {
            int register = r;
            makes("a print of register " + r, () -> new FractionPool(64), pool -> pool.length(register, true), r, 1, "0");
            answers("sign(" + r + ")", () -> new FractionPool(1024), pool -> pool.sign(register), 0);
            answers("length(" + r + ", false)", () -> new FractionPool(1024), pool -> pool.length(register, false), 0);
            answers("limb(" + r + ", true, 0)", () -> new FractionPool(1024), pool -> pool.limb(register, true, 0), 1);
        }
    }

    void termsEachRegisterHasItsOwnFraction() {
        FractionPool pool = new FractionPool(1024);
        for (int r = 0; r < 32; r++) {
            pool.set(r, r - 16, 2 * r + 1);
        }
        for (int r = 0; r < 32; r++) {
            long common = r == 16 ? 33 : gcd(Math.abs(r - 16), 2 * r + 1);
            String bottom = (2 * r + 1) / common == 1 ? "" : "/" + (2 * r + 1) / common;
            same("register " + r, Checks.text(pool, r), (r - 16) / common + bottom);
        }
    }

    private static long gcd(long a, long b) {
        return b == 0 ? a : gcd(b, a % b);
    }

    void termsTheDenominatorIsGreaterThan0() {
        Sight.Maker maker = with(64, "-2/3", "2/3", "-1", "5");
        makes("set(9, 2, -3)", maker, pool -> pool.set(9, 2, -3), 9, 2, "-2/3");
        makes("set(9, -2, -3)", maker, pool -> pool.set(9, -2, -3), 9, 2, "2/3");
        makes("divide by less than 0", maker, pool -> pool.divide(9, 1, 0), 9, 2, "-1");
        makes("divide of two less than 0", maker, pool -> pool.divide(9, 0, 2), 9, 2, "2/3");
        makes("divide(9, 3, 0)", maker, pool -> pool.divide(9, 3, 0), 9, 2, "-15/2");
        makes("power(9, 0, -1)", maker, pool -> pool.power(9, 0, -1), 9, 2, "-3/2");
        makes("power(9, 0, -2)", maker, pool -> pool.power(9, 0, -2), 9, 2, "9/4");
        makes("power(9, 2, -999)", maker, pool -> pool.power(9, 2, -999), 9, 2, "-1");
    }

    void termsNoCommonDivisorBut1() {
        Sight.Maker maker = with(64, "1/6", "1/3", "-2/15", "3/4", "9/2", "1/2");
        makes("set(9, 8, 12)", maker, pool -> pool.set(9, 8, 12), 9, 2, "2/3");
        makes("set(9, 8, 9)", maker, pool -> pool.set(9, 8, 9), 9, 2, "8/9");
        makes("add(9, 0, 0)", maker, pool -> pool.add(9, 0, 0), 9, 2, "1/3");
        makes("add(9, 0, 1)", maker, pool -> pool.add(9, 0, 1), 9, 2, "1/2");
        makes("add(9, 1, 2)", maker, pool -> pool.add(9, 1, 2), 9, 2, "1/5");
        makes("subtract(9, 1, 0)", maker, pool -> pool.subtract(9, 1, 0), 9, 2, "1/6");
        makes("subtract(9, 4, 5)", maker, pool -> pool.subtract(9, 4, 5), 9, 2, "4");
        makes("multiply(9, 1, 3)", maker, pool -> pool.multiply(9, 1, 3), 9, 2, "1/4");
        makes("multiply(9, 1, 4)", maker, pool -> pool.multiply(9, 1, 4), 9, 2, "3/2");
        makes("divide(9, 3, 4)", maker, pool -> pool.divide(9, 3, 4), 9, 2, "1/6");
        makes("dot(9, 0, 3, 3)", maker, pool -> pool.dot(9, 0, 3, 3), 9, 2, "187/120");
        makes("dot(9, 4, 4, 2)", maker, pool -> pool.dot(9, 4, 4, 2), 9, 2, "41/2");
        makes("round(9, 3, 1)", maker, pool -> pool.round(9, 3, 1), 9, 2, "1");
        makes("round(9, 5, 9)", maker, pool -> pool.round(9, 5, 9), 9, 2, "1/2");
        makes("align(9, 5, -9)", maker, pool -> pool.align(9, 5, -9), 9, 2, "1/2");
        makes("align(9, 3, -2)", maker, pool -> pool.align(9, 3, -2), 9, 2, "3/4");
        makes("align(9, 3, -3)", maker, pool -> pool.align(9, 3, -3), 9, 2, "3/4");
    }

    void terms0HasTheDenominator1() {
        Sight.Maker maker = with(64, "5/7", "-5/7", "0", "4/7", "5/4", "-1");
        zero("set(0, 0, 7)", maker, pool -> pool.set(0, 0, 7));
        zero("set(0, 0, -7)", maker, pool -> pool.set(0, 0, -7));
        zero("set(0, 0, Long.MIN_VALUE)", maker, pool -> pool.set(0, 0, Long.MIN_VALUE));
        zero("copy(0, 2)", maker, pool -> pool.copy(0, 2));
        zero("add(0, 0, 1)", maker, pool -> pool.add(0, 0, 1));
        zero("subtract(0, 0, 0)", maker, pool -> pool.subtract(0, 0, 0));
        zero("subtract(0, 1, 1)", maker, pool -> pool.subtract(0, 1, 1));
        zero("multiply(0, 1, 2)", maker, pool -> pool.multiply(0, 1, 2));
        zero("multiply(0, 2, 0)", maker, pool -> pool.multiply(0, 2, 0));
        zero("divide(0, 2, 1)", maker, pool -> pool.divide(0, 2, 1));
        zero("power(0, 2, 1)", maker, pool -> pool.power(0, 2, 1));
        zero("dot(0, 0, 0, 0)", maker, pool -> pool.dot(0, 0, 0, 0));
        zero("dot of 5/7 * 0 + 0 * -5/7", maker, pool -> pool.set(1, 0, 1) - 1 + pool.dot(0, 0, 1, 2));
        zero("dot of 4/7 * 5/4 + 5/7 * -1", with(64, "4/7", "5/7", "5/4", "-1"), pool -> pool.dot(0, 0, 2, 2));
        zero("floor(0, 3)", maker, pool -> pool.floor(0, 3));
        zero("round(0, 2, 5)", maker, pool -> pool.round(0, 2, 5));
        zero("align(0, 1, 2)", maker, pool -> pool.align(0, 1, 2));
        zero("align(0, 2, -4000)", maker, pool -> pool.align(0, 2, -4000));
        for (String text : new String[] {"0", "-0", "0.00", "-0.00", "0/7", "-000/7"}) {
            zero("read of " + text, made(64, pool -> {
                pool.set(0, 5, 7);
                Checks.typeAll(pool, text);
            }), pool -> pool.read(0));
        }
    }

    private void zero(String what, Sight.Maker maker, Use use) {
        makes(what, maker, use, 0, 1, "0");
        answers("the sign after " + what, after(maker, use), pool -> pool.sign(0), 0);
        answers("the numerator's length after " + what, after(maker, use), pool -> pool.length(0, false), 0);
        answers("the denominator's limb after " + what, after(maker, use), pool -> pool.limb(0, true, 0), 1);
    }

    void termsLengthAndLimbsOf0() {
        Sight.Maker maker = with(64, "0", "1", "-1", "4294967296");
        answers("the length of 0", maker, pool -> pool.length(0, false), 0);
        answers("the length of 1", maker, pool -> pool.length(1, false), 1);
        answers("the length of -1", maker, pool -> pool.length(2, false), 1);
        answers("the length of the denominator of 0", maker, pool -> pool.length(0, true), 1);
        answers("the limbs of 0 and its denominator", maker, pool -> pool.copy(3, 0), 1);
        answers("the limbs of 1 and its denominator", maker, pool -> pool.copy(3, 1), 2);
        answers("the limbs of -1 and its denominator", maker, pool -> pool.copy(3, 2), 2);
        answers("limb 0 of 0", maker, pool -> pool.limb(0, false, 0), 0);
        answers("limb 0 of the denominator of 0", maker, pool -> pool.limb(0, true, 0), 1);
        answers("limb 0 of 2^32", maker, pool -> pool.limb(3, false, 0), 0);
        answers("limb 1 of 2^32", maker, pool -> pool.limb(3, false, 1), 1);
    }

    /** 2^bits - 1, 2^bits and 2^bits + 1, as numerators below 0 and above, and as denominators. */
    void termsLengthsAndLimbsAroundPowersOfTwo() {
        for (int bits : new int[] {1, 2, 8, 16, 31, 32, 33, 63, 64, 65, 95, 96, 97, 128, 1023, 1024, 1025}) {
            for (int more = -1; more <= 1; more++) {
                int add = more;
                Sight.Maker maker = made(1024, pool -> putNear(pool, bits, add));
                int length = more < 0 ? bits : bits + 1;
                int limbs = (length + 31) / 32;
                String what = "2^" + bits + " + " + more;
                answers("the length of " + what, maker, pool -> pool.length(0, false), length);
                answers("the length of -" + what, maker, pool -> pool.length(1, false), length);
                answers("the denominator's length of 1 over " + what, maker, pool -> pool.length(2, true), length);
                answers("the limbs of " + what, maker, pool -> pool.copy(9, 0), limbs + 1);
                answers("the limbs of -" + what, maker, pool -> pool.copy(9, 1), limbs + 1);
                answers("the limbs of 1 over " + what, maker, pool -> pool.copy(9, 2), limbs + 1);
                answers("all limbs with " + what, maker, FractionPool::used, 29 + 3 * (limbs + 1));
            }
        }
    }

    private static void putNear(FractionPool pool, int bits, int more) {
        putPowerOfTwo(pool, 0, bits);
        pool.set(1, more, 1);
        pool.add(0, 0, 1);
        pool.set(1, 0, 1);
        pool.subtract(1, 1, 0);
        pool.power(2, 0, -1);
    }

    void termsARegisterNeedsTheLimbsOfBoth() {
        Object[][] cases = {{0L, 1L, 1}, {1L, 1L, 2}, {0xFFFFFFFFL, 1L, 2}, {0x100000000L, 1L, 3}, {1L, 0xFFFFFFFFL, 2}, {1L, 0x100000000L, 3},
            {0xFFFFFFFFL, 0x100000000L, 3}, {0x100000001L, 0x100000000L, 4}, {Long.MAX_VALUE, Long.MIN_VALUE, 4}, {Long.MIN_VALUE, 1L, 3}};
        for (Object[] c : cases) {
            answers("set " + c[0] + " " + c[1], () -> new FractionPool(64), pool -> pool.set(31, (long) c[0], (long) c[1]), (int) c[2]);
            answers("used after set " + c[0] + " " + c[1], made(64, pool -> pool.set(31, (long) c[0], (long) c[1])), FractionPool::used,
                31 + (int) c[2]);
        }
    }
}
