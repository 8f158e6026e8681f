import java.math.BigInteger;

/** The boundary cases of roundings: promises 12 and 13, and what 'Terms' says of them. */
public final class RoundingBoundaryTest extends Boundaries {
    /** So many bits behind the point have the fractions that the words of the document are tried on. */
    private static final int PLACES = 10;

    public static void main(String[] args) throws IllegalAccessException {
        new RoundingBoundaryTest().runAll();
    }

    private void rounds(String number, int p, String due) {
        FractionPool pool = with(200, number).make();
        pool.round(9, 0, p);
        same(number + " rounded to " + p + " bits", Checks.text(pool, 9), due);
        FractionPool below = with(200, number).make();
        below.subtract(0, 1, 0);
        below.round(0, 0, p);
        same("-" + number + " rounded to " + p + " bits onto itself", Checks.text(below, 0), due.equals("0") ? "0" : "-" + due);
    }

    /** The number less, and plus, 2^-200. */
    private void roundsBeside(String number, int p, String less, String plus) {
        for (int sign = -1; sign <= 1; sign += 2) {
            int step = sign;
            for (int size = -1; size <= 1; size += 2) {
                int side = size;
                FractionPool pool = with(200, number).make();
                pool.set(1, 1, 2);
                pool.power(1, 1, 200);
                pool.set(2, step, 1);
                pool.multiply(1, 1, 2);
                pool.add(0, 0, 1);
                pool.set(2, side, 1);
                pool.multiply(0, 0, 2);
                pool.round(0, 0, p);
                same("just beside " + number + " (" + step + ", " + side + ") rounded to " + p + " bits", Checks.text(pool, 0),
                    (side < 0 ? "-" : "") + (step < 0 ? less : plus));
            }
        }
    }

    void promise12PFrom1To1024() {
        Sight.Maker maker = with(1024, "-1/3", "0", "3");
        makes("to 1 bit", maker, pool -> pool.round(9, 0, 1), 9, 2, "-1/4");
        makes("to 2 bits", maker, pool -> pool.round(9, 0, 2), 9, 2, "-3/8");
        answers("to 1024 bits", maker, pool -> pool.round(9, 0, 1024), 32 + 33);
        answers("the length of that", after(maker, pool -> pool.round(9, 0, 1024)), pool -> pool.length(9, false), 1024);
        answers("the denominator's", after(maker, pool -> pool.round(9, 0, 1024)), pool -> pool.length(9, true), 1026);
        answers("the length of that to 1023 bits", after(maker, pool -> pool.round(9, 0, 1023)), pool -> pool.length(9, false), 1023);
        for (int p : new int[] {0, -1, 1025, 1026, 2048, 65537, Integer.MIN_VALUE, Integer.MIN_VALUE + 1, Integer.MAX_VALUE}) {
            refuses("to " + p + " bits", maker, pool -> pool.round(9, 0, p), ARGUMENT);
            refuses("onto itself to " + p + " bits", maker, pool -> pool.round(0, 0, p), ARGUMENT);
            refuses("0 to " + p + " bits", maker, pool -> pool.round(9, 1, p), ARGUMENT);
        }
    }

    /** 2^bits + more, rounded to p bits, and what that is less 2^bits. */
    private void roundsLong(int bits, int more, int p, long due) {
        FractionPool pool = new FractionPool(1024);
        putPowerOfTwo(pool, 0, bits);
        pool.copy(1, 0);
        pool.set(2, more, 1);
        pool.add(0, 0, 2);
        pool.round(0, 0, p);
        pool.subtract(0, 0, 1);
        same("2^" + bits + " + " + more + " rounded to " + p + " bits, less 2^" + bits, Checks.text(pool, 0), Long.toString(due));
    }

    void promise12TheLongestRoundings() {
        roundsLong(1023, 1, 1024, 1);
        roundsLong(1024, -1, 1024, -1);
        roundsLong(1024, 1, 1024, 0);
        roundsLong(1024, 2, 1024, 2);
        roundsLong(1024, 3, 1024, 4);
        roundsLong(1025, -1, 1024, 0);
        roundsLong(1025, -2, 1024, -2);
        roundsLong(1025, -3, 1024, -4);
        roundsLong(1025, 2, 1024, 0);
        roundsLong(1025, 3, 1024, 4);
        roundsLong(1025, 6, 1024, 8);
        roundsLong(1024, -1, 1023, 0);
        roundsLong(1023, 1, 1023, 0);
        roundsLong(1023, 3, 1023, 4);
        roundsLong(15000, 12345, 1024, 0);
    }

    void promise12OfTwoAsNearTheEvenM() {
        rounds("5", 2, "4");
        rounds("5/2", 2, "2");
        rounds("7/2", 2, "4");
        rounds("10", 2, "8");
        rounds("14", 2, "16");
        rounds("5/8", 2, "1/2");
        rounds("7/8", 2, "1");
        rounds("9", 3, "8");
        rounds("11", 3, "12");
        rounds("13", 3, "12");
        rounds("15", 3, "16");
        rounds("17", 4, "16");
        rounds("19", 4, "20");
        rounds("29", 4, "28");
        rounds("31", 4, "32");
        rounds("4294967297", 32, "4294967296");
        rounds("4294967299", 32, "4294967300");
        rounds("8589934591", 32, "8589934592");
        rounds("9007199254740993", 53, "9007199254740992");
        rounds("9007199254740995", 53, "9007199254740996");
        rounds("18014398509481983", 53, "18014398509481984");
        rounds("36893488147419103231", 64, "36893488147419103232");
    }

    void promise12OfTwoAsNearWith1BitTheGreater() {
        rounds("3", 1, "4");
        rounds("6", 1, "8");
        rounds("12", 1, "16");
        rounds("3/2", 1, "2");
        rounds("3/4", 1, "1");
        rounds("3/8", 1, "1/2");
        rounds("3/4294967296", 1, "1/1073741824");
        rounds("6442450944", 1, "8589934592");
        rounds("3221225472", 1, "4294967296");
    }

    void promise12JustBesideTheMiddle() {
        roundsBeside("3", 1, "2", "4");
        roundsBeside("3/4", 1, "1/2", "1");
        roundsBeside("5", 2, "4", "6");
        roundsBeside("7", 2, "6", "8");
        roundsBeside("9", 3, "8", "10");
        roundsBeside("11", 3, "10", "12");
        roundsBeside("15", 3, "14", "16");
        roundsBeside("4294967297", 32, "4294967296", "4294967298");
        roundsBeside("8589934591", 32, "8589934590", "8589934592");
    }

    /** Below a power of two the numbers lie twice as near to each other as above it. */
    void promise12BesideAPowerOfTwo() {
        roundsBeside("8", 3, "8", "8");
        roundsBeside("1", 1, "1", "1");
        rounds("31/4", 3, "8");
        rounds("15/2", 3, "8");
        rounds("29/4", 3, "7");
        rounds("17/2", 3, "8");
        rounds("9", 3, "8");
        rounds("19/2", 3, "10");
        roundsBeside("15/2", 3, "7", "8");
        roundsBeside("9", 3, "8", "10");
        rounds("5/4", 1, "1");
        rounds("7/8", 1, "1");
        rounds("7/4", 1, "2");
    }

    void promise12WhatHasNoMoreBitsStays() {
        for (String number : new String[] {"1", "2", "3", "5/8", "1/1024", "1048576", "13/16", "15"}) {
            for (int p : new int[] {4, 5, 32, 1024}) {
                rounds(number, p, number);
            }
        }
        rounds("1", 1, "1");
        rounds("1/4294967296", 1, "1/4294967296");
        rounds("4294967296", 1, "4294967296");
        rounds("3", 2, "3");
        rounds("7", 3, "7");
        rounds("4294967295", 32, "4294967295");
        rounds("4294967295", 31, "4294967296");
    }

    void promise12Of0() {
        for (int p : new int[] {1, 2, 32, 1023, 1024}) {
            rounds("0", p, "0");
        }
        rounds("1/18446744073709551616", 1, "1/18446744073709551616");
        rounds("1/55340232221128654848", 1, "1/73786976294838206464");
    }

    /** What is in between has more than 31,000 bits. */
    void promise12TheLongestFractions() {
        Sight.Maker near = made(1024, pool -> {
            putPowerOfTwo(pool, 0, 30720);
            pool.set(1, 1, 1);
            pool.subtract(0, 0, 1);
            pool.power(0, 0, -1);
        });
        answers("a little more than 2^-30720 to 1024 bits", near, pool -> pool.round(0, 0, 1024), 1 + 961);
        answers("a little more than 2^-30720 to 1 bit", near, pool -> pool.round(0, 0, 1), 1 + 961);
        Sight.Maker third = made(1024, pool -> putThird(pool, 29600));
        answers("1/3 of 2^-29600 to 1024 bits", third, pool -> pool.round(0, 0, 1024), 32 + 958);
        answers("the numerator's length", after(third, pool -> pool.round(0, 0, 1024)), pool -> pool.length(0, false), 1024);
        answers("the denominator's length", after(third, pool -> pool.round(0, 0, 1024)), pool -> pool.length(0, true), 30626);
        refuses("1/3 of 2^-30000 to 1024 bits", made(1024, pool -> putThird(pool, 30000)), pool -> pool.round(0, 0, 1024), ROOM);
    }

    private static void putThird(FractionPool pool, int bits) {
        putPowerOfTwo(pool, 0, bits);
        pool.set(1, 3, 1);
        pool.multiply(0, 0, 1);
        pool.power(0, 0, -1);
        pool.set(1, 0, 1);
    }

    /** No limb is left; register 0 has 1/3. */
    private static Sight.Maker full() {
        return made(64, pool -> {
            pool.set(0, 1, 3);
            fill(pool, 31, 32);
            pool.print(0);
            pool.type(Checks.eight("12"));
        });
    }

    void promise12WhichExceptionComesFirst() {
        answers("used()", full(), FractionPool::used, 64);
        refuses("to no register, p too small", full(), pool -> pool.round(32, 0, 0), INDEX);
        refuses("of no register, p too large", full(), pool -> pool.round(1, -1, 1025), INDEX);
        refuses("to no register, and no room", full(), pool -> pool.round(-1, 0, 1024), INDEX);
        refuses("p too large, and no room", full(), pool -> pool.round(1, 0, 1025), ARGUMENT);
        refuses("p too small, and no room", full(), pool -> pool.round(1, 31, 0), ARGUMENT);
        refuses("no room alone", full(), pool -> pool.round(0, 0, 1024), ROOM);
        refuses("no room by a limb", full(), pool -> pool.round(1, 0, 1), ROOM);
    }

    void promise13WhichExceptionComesFirst() {
        refuses("to no register, e too small", full(), pool -> pool.align(32, 0, -4001), INDEX);
        refuses("of no register, e too large", full(), pool -> pool.align(1, -1, 4001), INDEX);
        refuses("to no register, and no room", full(), pool -> pool.align(-1, 0, -4000), INDEX);
        refuses("e too small, and no room", full(), pool -> pool.align(1, 0, -4001), ARGUMENT);
        refuses("e too large, and no room", full(), pool -> pool.align(1, 31, 4001), ARGUMENT);
        refuses("no room alone", full(), pool -> pool.align(0, 0, -4000), ROOM);
        refuses("no room by a limb", full(), pool -> pool.align(1, 0, -2), ROOM);
        makes("room for 0", full(), pool -> pool.align(1, 0, 0), 1, 1, "0");
    }

    void promise13EFromMinus4000To4000() {
        Sight.Maker maker = with(1024, "-5/3", "0", "3");
        makes("to 2^4000", maker, pool -> pool.align(9, 0, 4000), 9, 1, "0");
        makes("to 2^3999", maker, pool -> pool.align(9, 0, 3999), 9, 1, "0");
        makes("3 to 2^-4000", maker, pool -> pool.align(9, 2, -4000), 9, 2, "3");
        makes("0 to 2^-4000", maker, pool -> pool.align(9, 1, -4000), 9, 1, "0");
        makes("0 to 2^4000", maker, pool -> pool.align(9, 1, 4000), 9, 1, "0");
        answers("the denominator's length to 2^-4000", after(maker, pool -> pool.align(9, 0, -4000)), pool -> pool.length(9, true), 4001);
        answers("the denominator's length to 2^-3999", after(maker, pool -> pool.align(9, 0, -3999)), pool -> pool.length(9, true), 4000);
        for (int e : new int[] {4001, -4001, 4002, -4002, 65536, Integer.MIN_VALUE, Integer.MIN_VALUE + 1, Integer.MAX_VALUE}) {
            refuses("to 2^" + e, maker, pool -> pool.align(9, 0, e), ARGUMENT);
            refuses("onto itself to 2^" + e, maker, pool -> pool.align(0, 0, e), ARGUMENT);
            refuses("0 to 2^" + e, maker, pool -> pool.align(9, 1, e), ARGUMENT);
        }
    }

    /** times * 2^bits, and so many more, aligned to 2^4000: the length of what that makes. */
    private void alignsLong(int times, int bits, int more, int length) {
        for (int sign = -1; sign <= 1; sign += 2) {
            FractionPool pool = new FractionPool(1024);
            putPowerOfTwo(pool, 0, bits);
            pool.set(1, times, 1);
            pool.multiply(0, 0, 1);
            pool.set(1, more, 1);
            pool.add(0, 0, 1);
            pool.set(1, sign, 1);
            pool.multiply(0, 0, 1);
            pool.align(0, 0, 4000);
            String what = sign + " times " + times + " * 2^" + bits + " + " + more + " to 2^4000";
            same(what, Checks.answer(() -> pool.length(0, false)), Integer.toString(length));
            same("the sign of " + what, Checks.answer(() -> pool.sign(0)), Integer.toString(length == 0 ? 0 : sign));
        }
    }

    void promise13TheLargestMultiples() {
        alignsLong(1, 3999, -1, 0);
        alignsLong(1, 3999, 0, 0);
        alignsLong(1, 3999, 1, 4001);
        alignsLong(1, 4000, 0, 4001);
        alignsLong(3, 3999, -1, 4001);
        alignsLong(3, 3999, 0, 4002);
        alignsLong(3, 3999, 1, 4002);
        alignsLong(5, 3999, 0, 4002);
        alignsLong(7, 3999, 0, 4003);
    }

    /** times / 2^bits, aligned to 2^-4000: what the numerator and the length of the denominator are then. */
    private void alignsShort(int times, int bits, int numerator, int length) {
        FractionPool pool = new FractionPool(1024);
        putPowerOfTwo(pool, 0, bits);
        pool.set(1, times, 1);
        pool.divide(0, 1, 0);
        pool.align(0, 0, -4000);
        String what = times + " / 2^" + bits + " to 2^-4000";
        same("the numerator of " + what, Checks.answer(() -> pool.sign(0) * pool.limb(0, false, 0)), Integer.toString(numerator));
        same("the denominator of " + what, Checks.answer(() -> pool.length(0, true)), Integer.toString(length));
    }

    void promise13TheSmallestMultiples() {
        alignsShort(1, 4000, 1, 4001);
        alignsShort(-1, 4000, -1, 4001);
        alignsShort(1, 4001, 0, 1);
        alignsShort(-1, 4001, 0, 1);
        alignsShort(3, 4001, 1, 4000);
        alignsShort(-3, 4001, -1, 4000);
        alignsShort(5, 4001, 1, 4000);
        alignsShort(3, 4002, 1, 4001);
        alignsShort(7, 4001, 1, 3999);
        alignsShort(1, 4002, 0, 1);
        alignsShort(-5, 4003, -1, 4001);
    }

    private void aligns(String number, int e, String due) {
        for (int sign = -1; sign <= 1; sign += 2) {
            FractionPool pool = with(200, number).make();
            pool.set(1, sign, 1);
            pool.multiply(0, 0, 1);
            pool.align(9, 0, e);
            String signed = due.equals("0") || sign > 0 ? due : "-" + due;
            same(sign + " times " + number + " to 2^" + e, Checks.text(pool, 9), signed);
            pool.align(0, 0, e);
            same(sign + " times " + number + " to 2^" + e + " onto itself", Checks.text(pool, 0), signed);
        }
    }

    void promise13OfTwoAsNearTheEvenM() {
        aligns("1/2", 0, "0");
        aligns("3/2", 0, "2");
        aligns("5/2", 0, "2");
        aligns("7/2", 0, "4");
        aligns("1", 1, "0");
        aligns("3", 1, "4");
        aligns("5", 1, "4");
        aligns("2147483648", 32, "0");
        aligns("6442450944", 32, "8589934592");
        aligns("10737418240", 32, "8589934592");
        aligns("1/4", -1, "0");
        aligns("3/4", -1, "1");
        aligns("1/8589934592", -32, "0");
        aligns("3/8589934592", -32, "1/2147483648");
        aligns("8589934593/2", 0, "4294967296");
        aligns("8589934591/2", 0, "4294967296");
    }

    void promise13JustBesideTheMiddle() {
        aligns("36893488147419103231/73786976294838206464", 0, "0");
        aligns("36893488147419103233/73786976294838206464", 0, "1");
        aligns("18446744073709551615/18446744073709551616", 1, "0");
        aligns("18446744073709551617/18446744073709551616", 1, "2");
        aligns("2147483647", 32, "0");
        aligns("2147483649", 32, "4294967296");
        aligns("6442450943", 32, "4294967296");
        aligns("6442450945", 32, "8589934592");
        aligns("1/3", 0, "0");
        aligns("2/3", 0, "1");
    }

    void promise13MultiplesStay() {
        aligns("0", 0, "0");
        aligns("7", 0, "7");
        aligns("12", 2, "12");
        aligns("12", 1, "12");
        aligns("3/8", -3, "3/8");
        aligns("3/8", -4, "3/8");
        aligns("3/8", -2, "1/2");
        aligns("12884901888", 32, "12884901888");
        aligns("18446744073709551616", 64, "18446744073709551616");
        for (int e : new int[] {-3, -4, -34, -35, -36, -66, -67, -68, -80, -1000}) {
            aligns("1234567890123456789012345679/8", e, "1234567890123456789012345679/8");
            aligns("1/8", e, "1/8");
        }
    }

    /** The word 'next' as it stands: of all m * 2^e with so many bits, the one at the least distance. */
    void termsRoundingInTheWordsOfTheDocument() {
        for (int n = -40; n <= 40; n++) {
            for (int d = 1; d <= 24; d++) {
                FractionPool pool = new FractionPool(64);
                pool.set(0, n, d);
                for (int p = 1; p <= 5; p++) {
                    pool.round(1, 0, p);
                    same(n + "/" + d + " rounded to " + p + " bits", Checks.text(pool, 1), text(nextWithBits(n, d, p)));
                }
            }
        }
    }

    void promise13InTheWordsOfTheDocument() {
        for (int n = -40; n <= 40; n++) {
            for (int d = 1; d <= 24; d++) {
                FractionPool pool = new FractionPool(64);
                pool.set(0, n, d);
                for (int e = -4; e <= 5; e++) {
                    pool.align(1, 0, e);
                    same(n + "/" + d + " aligned to 2^" + e, Checks.text(pool, 1), text(nextMultiple(n, d, e)));
                }
            }
        }
    }

    /** As so many parts of 2^-PLACES. */
    private static long nextWithBits(int n, int d, int p) {
        long next = 0;
        for (int e = -PLACES; e <= 6; e++) {
            for (long m = -(1 << p) + 1; m < 1 << p; m++) {
                long other = m << e + PLACES;
                int nearer = Long.compare(distance(n, d, other), distance(n, d, next));
                if (nearer < 0 || nearer == 0 && other != next && comesFirst(other, next, p)) {
                    next = other;
                }
            }
        }
        return next;
    }

    private static boolean comesFirst(long one, long other, int p) {
        return p == 1 ? Math.abs(one) > Math.abs(other) : fullM(one, p) % 2 == 0;
    }

    /** The m of a number, at least 2^(p - 1) in size. */
    private static long fullM(long parts, int p) {
        long m = Math.abs(parts);
        while (m >= 1L << p) {
            m >>= 1;
        }
        while (m != 0 && m < 1L << p - 1) {
            m <<= 1;
        }
        return m;
    }

    private static long nextMultiple(int n, int d, int e) {
        long next = 0;
        for (long m = -800; m <= 800; m++) {
            long other = m << e + PLACES;
            int nearer = Long.compare(distance(n, d, other), distance(n, d, next));
            if (nearer < 0 || nearer == 0 && m % 2 == 0) {
                next = other;
            }
        }
        return next;
    }

    private static long distance(int n, int d, long parts) {
        return Math.abs(((long) n << PLACES) - parts * d);
    }

    private static String text(long parts) {
        BigInteger top = BigInteger.valueOf(parts);
        BigInteger bottom = BigInteger.ONE.shiftLeft(PLACES);
        BigInteger common = top.gcd(bottom);
        return top.divide(common) + (common.equals(bottom) ? "" : "/" + bottom.divide(common));
    }
}
