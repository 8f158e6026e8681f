import java.math.BigInteger;
import java.util.Random;

/**
 * Long division and common divisors where they are hardest: numbers whose limbs are all 0s, all 1s or
 * one bit, near multiples, and neighbours of one another. The seeds are fixed.
 */
public final class LongNumbersTest {
    private static final int[] LIMBS = {0, 0, -1, -1, 1, -2, 0x80000000, 0x7FFFFFFF, 0x80000001, 2};

    private final Checks checks = new Checks("LongNumbersTest");
    private final Random random = new Random(19);

    public static void main(String[] args) {
        new LongNumbersTest().run(args.length > 0 ? Integer.parseInt(args[0]) : 3000);
    }

    private void run(int rounds) {
        guessedOneTooMuch();
        for (int i = 0; i < rounds && !checks.anyFailed(); i++) {
            pair(number(9), number(9).add(BigInteger.ONE), number(9), number(9).add(BigInteger.ONE));
            BigInteger d = number(6).add(BigInteger.ONE);
            BigInteger common = number(6).add(BigInteger.ONE);
            pair(number(6).add(BigInteger.ONE).multiply(d).subtract(BigInteger.ONE), d, number(6).multiply(common), d.multiply(common));
            BigInteger n = number(9).add(BigInteger.TWO);
            pair(n, n.subtract(BigInteger.ONE), n.add(BigInteger.ONE), n);
        }
        neighbours();
        checks.finish();
    }

    /** Divisions in which the first two limbs of the divisor leave the guess of a limb 1 too high. */
    private void guessedOneTooMuch() {
        String[][] cases = {{"7FFFFFFF800000000000000000000000", "800000000000000000000001"}, {"80000000000000000000000000000003", "200000000000000000000001"},
            {"8000000000000000000000000000000000000003", "200000000000000000000001"}, {"FFFFFFFE00000000000000000000000", "FFFFFFFF00000001"},
            {"80000000FFFFFFFE0000000000000000", "80000000FFFFFFFF"}, {"0000FFFF80000000000000000000000000000000", "80000000000000000000FFFF"}};
        for (String[] c : cases) {
            pair(new BigInteger(c[0], 16), new BigInteger(c[1], 16), new BigInteger(c[1], 16), new BigInteger(c[0], 16));
        }
    }

    /** Numbers of Fibonacci are the dearest for Euclid. */
    private void neighbours() {
        BigInteger one = BigInteger.ONE;
        BigInteger other = BigInteger.ONE;
        for (int i = 0; i < 700; i++) {
            BigInteger sum = one.add(other);
            one = other;
            other = sum;
            if (i % 50 == 0) {
                pair(other, one, one.negate(), other);
            }
        }
    }

    private BigInteger number(int most) {
        int count = 1 + random.nextInt(most);
        boolean any = random.nextInt(3) == 0;
        BigInteger number = BigInteger.ZERO;
        for (int i = 0; i < count; i++) {
            int limb = any || random.nextInt(8) == 0 ? random.nextInt() : LIMBS[random.nextInt(LIMBS.length)];
            number = number.shiftLeft(32).add(BigInteger.valueOf(limb & 0xFFFFFFFFL));
        }
        return number;
    }

    private static String text(BigInteger top, BigInteger bottom) {
        BigInteger common = top.gcd(bottom);
        BigInteger d = bottom.divide(common);
        return top.divide(common) + (d.equals(BigInteger.ONE) ? "" : "/" + d);
    }

    private void pair(BigInteger n, BigInteger d, BigInteger m, BigInteger e) {
        FractionPool pool = new FractionPool(256);
        Checks.put(pool, 0, n + "/" + d);
        Checks.put(pool, 1, m + "/" + e);
        String of = " of " + n + "/" + d + " and " + m + "/" + e;
        BigInteger across = n.multiply(e);
        BigInteger back = m.multiply(d);
        BigInteger below = d.multiply(e);
        checks.due("compare" + of, () -> pool.compare(0, 1), across.compareTo(back));
        pool.add(2, 0, 1);
        same("add" + of, pool, across.add(back), below);
        pool.subtract(2, 0, 1);
        same("subtract" + of, pool, across.subtract(back), below);
        pool.multiply(2, 0, 1);
        same("multiply" + of, pool, n.multiply(m), below);
        if (m.signum() != 0) {
            pool.divide(2, 0, 1);
            same("divide" + of, pool, m.signum() < 0 ? across.negate() : across, back.abs());
        }
        pool.floor(2, 0);
        same("floor" + of, pool, n.divide(d), BigInteger.ONE);
        pool.align(2, 0, -100);
        same("align" + of, pool, nearest(n.shiftLeft(100), d), BigInteger.ONE.shiftLeft(100));
    }

    private static BigInteger nearest(BigInteger n, BigInteger d) {
        BigInteger[] parts = n.divideAndRemainder(d);
        int order = parts[1].shiftLeft(1).compareTo(d);
        return order > 0 || order == 0 && parts[0].testBit(0) ? parts[0].add(BigInteger.ONE) : parts[0];
    }

    /** By its limbs and its sign, as a print would take too many of the 512 calls. */
    private void same(String what, FractionPool pool, BigInteger top, BigInteger bottom) {
        BigInteger common = top.gcd(bottom);
        BigInteger n = top.divide(common);
        BigInteger d = bottom.divide(common);
        boolean same = pool.sign(2) == n.signum();
        same &= pool.length(2, false) == n.abs().bitLength() && pool.length(2, true) == d.bitLength();
        for (int k = 0; k < Model.limbs(n); k++) {
            same &= pool.limb(2, false, k) == n.abs().shiftRight(32 * k).intValue();
        }
        for (int k = 0; k < Model.limbs(d); k++) {
            same &= pool.limb(2, true, k) == d.shiftRight(32 * k).intValue();
        }
        checks.same(what, same ? text(n, d) : "another number", text(n, d));
    }
}
