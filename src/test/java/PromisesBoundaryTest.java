/**
 * The boundary cases of promises 1 to 18 but for the room and the roundings: the arguments that a call names,
 * and which exception is thrown when several fit.
 */
public final class PromisesBoundaryTest extends Boundaries {
    private static final long LEAST = Long.MIN_VALUE;
    private static final long MOST = Long.MAX_VALUE;

    public static void main(String[] args) throws IllegalAccessException {
        new PromisesBoundaryTest().runAll();
    }

    /** No limb is left; register 0 has 2^95, 1 has 1/3, 2 has -1/2, 3 and others have 0; a print and a text are there. */
    private static Sight.Maker full() {
        return made(64, pool -> {
            putPowerOfTwo(pool, 0, 95);
            pool.set(1, 1, 3);
            pool.set(2, -1, 2);
            fill(pool, 31, 28);
            pool.print(2);
            pool.type(Checks.eight("12"));
        });
    }

    void termsTheFullRoomOfTheseTestsIsFull() {
        answers("used()", full(), FractionPool::used, 64);
    }

    void promise1AllIs0AndThereIsNoText() {
        for (int room : new int[] {64, 1024, 63, 1025}) {
            Sight.Maker maker = () -> new FractionPool(room);
            answers("used()", maker, FractionPool::used, 32);
            answers("fault()", maker, FractionPool::fault, FractionPool.NONE);
            answers("character(0)", maker, pool -> pool.character(0), FractionPool.NONE);
            refusesToRead("read(0) without a text", maker, 0, ARGUMENT, 0);
            same("the registers", Sight.registers(maker), Sight.registers(made(100, pool -> pool.set(9, 0, 1))));
        }
    }

    void promise2TheDenominatorIs0() {
        for (long n : new long[] {0, 1, -1, LEAST, MOST}) {
            refuses("set(0, " + n + ", 0)", with(64, "5/3"), pool -> pool.set(0, n, 0), ARITHMETIC);
        }
        makes("set(0, 7, 1)", with(64, "5/3"), pool -> pool.set(0, 7, 1), 0, 2, "7");
        makes("set(0, 7, -1)", with(64, "5/3"), pool -> pool.set(0, 7, -1), 0, 2, "-7");
    }

    void promise2TheLeastLongAndTheGreatest() {
        Object[][] cases = {{LEAST, 1L, 3, "-9223372036854775808"}, {LEAST, -1L, 3, "9223372036854775808"}, {LEAST + 1, 1L, 3, "-9223372036854775807"},
            {LEAST + 1, -1L, 3, "9223372036854775807"}, {MOST, 1L, 3, "9223372036854775807"}, {MOST, -1L, 3, "-9223372036854775807"},
            {1L, LEAST, 3, "-1/9223372036854775808"}, {-1L, LEAST, 3, "1/9223372036854775808"}, {1L, MOST, 3, "1/9223372036854775807"},
            {LEAST, LEAST, 2, "1"}, {LEAST, MOST, 4, "-9223372036854775808/9223372036854775807"}, {MOST, LEAST, 4, "-9223372036854775807/9223372036854775808"},
            {MOST, MOST, 2, "1"}, {LEAST, 2L, 3, "-4611686018427387904"}, {2L, LEAST, 3, "-1/4611686018427387904"}, {LEAST, 1L << 32, 2, "-2147483648"},
            {0L, LEAST, 1, "0"}, {0L, MOST, 1, "0"}, {0L, 1L, 1, "0"}, {0L, -1L, 1, "0"}, {LEAST, LEAST + 1, 4, "9223372036854775808/9223372036854775807"}};
        for (Object[] c : cases) {
            makes("set(31, " + c[0] + ", " + c[1] + ")", () -> new FractionPool(64), pool -> pool.set(31, (long) c[0], (long) c[1]), 31, (int) c[2],
                (String) c[3]);
        }
    }

    void promise2WhichExceptionComesFirst() {
        refuses("no register, and d is 0", full(), pool -> pool.set(32, 1, 0), INDEX);
        refuses("no register, d is 0", full(), pool -> pool.set(-1, 0, 0), INDEX);
        refuses("no register, and no room", full(), pool -> pool.set(32, MOST, 1), INDEX);
        refuses("d is 0, and no room", full(), pool -> pool.set(3, MOST, 0), ARITHMETIC);
        refuses("no room alone", full(), pool -> pool.set(3, MOST, 1), ROOM);
    }

    void promise3WhichExceptionComesFirst() {
        refuses("no register to copy to, and no room", full(), pool -> pool.copy(32, 0), INDEX);
        refuses("no register to copy, and no room", full(), pool -> pool.copy(3, 32), INDEX);
        refuses("no room alone", full(), pool -> pool.copy(3, 0), ROOM);
        refuses("no room by one limb", full(), pool -> pool.copy(3, 1), ROOM);
    }

    void promise3ACopyOntoItself() {
        Sight.Maker maker = with(64, "-5/3", "4294967296");
        same("copy(1, 1)", Sight.all(after(maker, pool -> pool.copy(1, 1))), Sight.all(maker));
        answers("copy(1, 1)", maker, pool -> pool.copy(1, 1), 3);
        answers("copy(9, 9), a 0", maker, pool -> pool.copy(9, 9), 1);
    }

    void promise4SwapWithItself() {
        Sight.Maker maker = with(64, "-5/3", "4294967296");
        for (int r : new int[] {0, 1, 2, 31}) {
            answers("swap(" + r + ", " + r + ")", maker, pool -> pool.swap(r, r), r == 0 ? 2 : r == 1 ? 3 : 1);
            same("swap(" + r + ", " + r + ") changes nothing", Sight.all(after(maker, pool -> pool.swap(r, r))), Sight.all(maker));
        }
    }

    void promise4SwapWith0AndBack() {
        Sight.Maker maker = with(64, "-5/3", "4294967296/7");
        makes("swap(0, 31)", maker, pool -> pool.swap(0, 31), 31, 1, "-5/3");
        makes("swap(31, 0)", maker, pool -> pool.swap(31, 0), 0, 2, "0");
        makes("swap(1, 0)", maker, pool -> pool.swap(1, 0), 0, 2, "4294967296/7");
        makes("swap(0, 1)", maker, pool -> pool.swap(0, 1), 1, 3, "-5/3");
        same("twice", Sight.all(after(maker, pool -> pool.swap(1, 0) + pool.swap(1, 0))), Sight.all(maker));
        same("either way", Sight.all(after(maker, pool -> pool.swap(1, 0))), Sight.all(after(maker, pool -> pool.swap(0, 1))));
    }

    void promise4SwapOfNumbersOfOtherLengths() {
        String one = "-18446744073709551617/2";
        String other = "5/79228162514264337593543950336";
        Sight.Maker maker = with(64, one, other, "3");
        makes("swap(0, 1), register 0", maker, pool -> pool.swap(0, 1), 0, 5, other);
        makes("swap(0, 1), register 1", maker, pool -> pool.swap(0, 1), 1, 5, one);
        makes("swap(1, 0), register 1", maker, pool -> pool.swap(1, 0), 1, 4, one);
        makes("swap(1, 2), register 2", maker, pool -> pool.swap(1, 2), 2, 2, other);
        makes("swap(2, 1), register 1", maker, pool -> pool.swap(2, 1), 1, 5, "3");
        same("swap(0, 1)", Sight.registers(after(maker, pool -> pool.swap(0, 1))), Sight.registers(with(64, other, one, "3")));
        same("swap(1, 2)", Sight.registers(after(maker, pool -> pool.swap(1, 2))), Sight.registers(with(64, one, "3", other)));
        same("both", Sight.registers(after(maker, pool -> pool.swap(0, 1) + pool.swap(2, 0))), Sight.registers(with(64, "3", one, other)));
    }

    private interface Three {
        int on(FractionPool pool, int to, int a, int b);
    }

    private void noRegisterBeforeNoRoom(String call, Three three) {
        refuses(call + " to no register, and no room", full(), pool -> three.on(pool, 32, 0, 1), INDEX);
        refuses(call + " of no register, and no room", full(), pool -> three.on(pool, 3, -1, 1), INDEX);
        refuses(call + " with no register, and no room", full(), pool -> three.on(pool, 3, 0, 32), INDEX);
        refuses(call + " without room alone", full(), pool -> three.on(pool, 3, 0, 1), ROOM);
    }

    void promise5WhichExceptionComesFirst() {
        noRegisterBeforeNoRoom("add", FractionPool::add);
    }

    void promise6WhichExceptionComesFirst() {
        noRegisterBeforeNoRoom("subtract", FractionPool::subtract);
    }

    void promise7WhichExceptionComesFirst() {
        noRegisterBeforeNoRoom("multiply", FractionPool::multiply);
    }

    void promise8WhichExceptionComesFirst() {
        noRegisterBeforeNoRoom("divide", FractionPool::divide);
        refuses("to no register, and b is 0", full(), pool -> pool.divide(32, 0, 3), INDEX);
        refuses("of no register, and b is 0", full(), pool -> pool.divide(3, 32, 3), INDEX);
        refuses("b is 0 where no limb is left", full(), pool -> pool.divide(3, 0, 4), ARITHMETIC);
    }

    void promise5To7OntoOneOfTheTwo() {
        Sight.Maker maker = with(64, "1/2", "-1/3");
        makes("add onto a", maker, pool -> pool.add(0, 0, 1), 0, 2, "1/6");
        makes("add onto b", maker, pool -> pool.add(1, 0, 1), 1, 2, "1/6");
        makes("subtract onto a", maker, pool -> pool.subtract(0, 0, 1), 0, 2, "5/6");
        makes("subtract onto b", maker, pool -> pool.subtract(1, 0, 1), 1, 2, "5/6");
        makes("multiply onto a", maker, pool -> pool.multiply(0, 0, 1), 0, 2, "-1/6");
        makes("multiply onto b", maker, pool -> pool.multiply(1, 0, 1), 1, 2, "-1/6");
        makes("divide onto a", maker, pool -> pool.divide(0, 0, 1), 0, 2, "-3/2");
        makes("divide onto b", maker, pool -> pool.divide(1, 0, 1), 1, 2, "-3/2");
        makes("add of one register to itself", maker, pool -> pool.add(1, 1, 1), 1, 2, "-2/3");
        makes("subtract of one register from itself", maker, pool -> pool.subtract(1, 1, 1), 1, 1, "0");
        makes("multiply of one register with itself", maker, pool -> pool.multiply(1, 1, 1), 1, 2, "1/9");
        makes("divide of one register by itself", maker, pool -> pool.divide(1, 1, 1), 1, 2, "1");
    }

    void promise5And6CarriesAndBorrows() {
        Sight.Maker maker = with(100, "4294967295", "1", "18446744073709551615", "18446744073709551616", "-1", "79228162514264337593543950336");
        makes("2^32 - 1 and 1", maker, pool -> pool.add(9, 0, 1), 9, 3, "4294967296");
        makes("2^64 - 1 and 1", maker, pool -> pool.add(9, 2, 1), 9, 4, "18446744073709551616");
        makes("2^64 and -1", maker, pool -> pool.add(9, 3, 4), 9, 3, "18446744073709551615");
        makes("-1 and 2^64", maker, pool -> pool.add(9, 4, 3), 9, 3, "18446744073709551615");
        makes("2^96 less 1", maker, pool -> pool.subtract(9, 5, 1), 9, 4, "79228162514264337593543950335");
        makes("1 less 2^96", maker, pool -> pool.subtract(9, 1, 5), 9, 4, "-79228162514264337593543950335");
        makes("2^64 less 2^64 - 1", maker, pool -> pool.subtract(9, 3, 2), 9, 2, "1");
        makes("2^64 - 1 less -1", maker, pool -> pool.subtract(9, 2, 4), 9, 4, "18446744073709551616");
    }

    void promise8BIs0() {
        Sight.Maker maker = with(64, "5/3", "0", "-1/18446744073709551616", "1/18446744073709551616");
        refuses("divide(9, 0, 1)", maker, pool -> pool.divide(9, 0, 1), ARITHMETIC);
        refuses("divide(9, 1, 1), 0 by 0", maker, pool -> pool.divide(9, 1, 1), ARITHMETIC);
        refuses("divide(0, 0, 9)", maker, pool -> pool.divide(0, 0, 9), ARITHMETIC);
        refuses("divide(1, 0, 1), to b itself", maker, pool -> pool.divide(1, 0, 1), ARITHMETIC);
        makes("just below 0", maker, pool -> pool.divide(9, 0, 2), 9, 4, "-92233720368547758080/3");
        makes("just above 0", maker, pool -> pool.divide(9, 0, 3), 9, 4, "92233720368547758080/3");
        makes("0 by just below 0", maker, pool -> pool.divide(9, 1, 2), 9, 1, "0");
    }

    void promise9NFromMinus1000To1000() {
        Sight.Maker maker = with(1024, "-1", "2", "1/2", "1");
        answers("-1 to the 1000", maker, pool -> pool.power(9, 0, 1000), 2);
        makes("-1 to the 1000", maker, pool -> pool.power(9, 0, 1000), 9, 2, "1");
        makes("-1 to the 999", maker, pool -> pool.power(9, 0, 999), 9, 2, "-1");
        makes("-1 to the -999", maker, pool -> pool.power(9, 0, -999), 9, 2, "-1");
        makes("-1 to the -1000", maker, pool -> pool.power(9, 0, -1000), 9, 2, "1");
        answers("2 to the 1000", maker, pool -> pool.power(9, 1, 1000), 32 + 1);
        answers("its length", after(maker, pool -> pool.power(9, 1, 1000)), pool -> pool.length(9, false), 1001);
        answers("2 to the -1000", maker, pool -> pool.power(9, 1, -1000), 1 + 32);
        answers("its denominator's length", after(maker, pool -> pool.power(9, 1, -1000)), pool -> pool.length(9, true), 1001);
        answers("1/2 to the -1000", after(maker, pool -> pool.power(9, 2, -1000)), pool -> pool.length(9, false), 1001);
        makes("1 to the 1000", maker, pool -> pool.power(9, 3, 1000), 9, 2, "1");
        for (int n : new int[] {1001, -1001, 1002, 65536, Integer.MAX_VALUE, Integer.MIN_VALUE, Integer.MIN_VALUE + 1}) {
            refuses("1 to the " + n, maker, pool -> pool.power(9, 3, n), ARGUMENT);
            refuses("-1 to the " + n + " onto itself", maker, pool -> pool.power(0, 0, n), ARGUMENT);
        }
    }

    void promise9NIs0() {
        Sight.Maker maker = with(64, "-5/3", "0", "18446744073709551616");
        makes("a number below 0", maker, pool -> pool.power(9, 0, 0), 9, 2, "1");
        makes("0", maker, pool -> pool.power(9, 1, 0), 9, 2, "1");
        makes("0 onto itself", maker, pool -> pool.power(1, 1, 0), 1, 2, "1");
        makes("a long one onto itself", maker, pool -> pool.power(2, 2, 0), 2, 2, "1");
        answers("its sign", after(maker, pool -> pool.power(0, 0, 0)), pool -> pool.sign(0), 1);
    }

    void promise9NBeside0() {
        Sight.Maker maker = with(64, "-5/3", "-1/7");
        makes("to the 1", maker, pool -> pool.power(9, 0, 1), 9, 2, "-5/3");
        makes("to the -1", maker, pool -> pool.power(9, 0, -1), 9, 2, "-3/5");
        makes("to the 2", maker, pool -> pool.power(9, 0, 2), 9, 2, "25/9");
        makes("to the -2", maker, pool -> pool.power(9, 0, -2), 9, 2, "9/25");
        makes("to the 3", maker, pool -> pool.power(9, 0, 3), 9, 2, "-125/27");
        makes("to the -3", maker, pool -> pool.power(0, 0, -3), 0, 2, "-27/125");
        makes("to a whole number", maker, pool -> pool.power(9, 1, -1), 9, 2, "-7");
    }

    void promise9AIs0() {
        Sight.Maker maker = with(64, "-5/3", "0");
        for (int n : new int[] {-1, -2, -999, -1000}) {
            refuses("0 to the " + n, maker, pool -> pool.power(0, 1, n), ARITHMETIC);
            refuses("0 to the " + n + " onto itself", maker, pool -> pool.power(1, 1, n), ARITHMETIC);
        }
        for (int n : new int[] {1, 2, 999, 1000}) {
            makes("0 to the " + n, maker, pool -> pool.power(0, 1, n), 0, 1, "0");
        }
    }

    void promise9WhichExceptionComesFirst() {
        refuses("to no register, n too large", full(), pool -> pool.power(32, 0, 1001), INDEX);
        refuses("of no register, n too small", full(), pool -> pool.power(3, 32, -1001), INDEX);
        refuses("to no register, 0 to the -1", full(), pool -> pool.power(-1, 3, -1), INDEX);
        refuses("to no register, and no room", full(), pool -> pool.power(32, 0, 1000), INDEX);
        refuses("n too small, and a is 0", full(), pool -> pool.power(4, 3, -1001), ARGUMENT);
        refuses("n too large, and no room", full(), pool -> pool.power(3, 0, 1001), ARGUMENT);
        refuses("n too small, and no room", full(), pool -> pool.power(3, 0, -1001), ARGUMENT);
        refuses("a is 0 and n below 0 where no limb is left", full(), pool -> pool.power(4, 3, -1), ARITHMETIC);
        refuses("no room alone", full(), pool -> pool.power(3, 0, 1000), ROOM);
        refuses("no room for a 1", full(), pool -> pool.power(3, 3, 0), ROOM);
    }

    /** Register r has r + 1. */
    private static Sight.Maker counted() {
        return made(100, pool -> {
            for (int r = 0; r < 32; r++) {
                pool.set(r, r + 1, 1);
            }
            pool.print(9);
            pool.type(Checks.eight("1/2"));
        });
    }

    void promise10UpToTheLastRegister() {
        makes("all 32", counted(), pool -> pool.dot(5, 0, 0, 32), 5, 2, "11440");
        makes("31 of 32", counted(), pool -> pool.dot(5, 0, 0, 31), 5, 2, "10416");
        makes("the last 31", counted(), pool -> pool.dot(5, 1, 1, 31), 5, 2, "11439");
        makes("the last with the first", counted(), pool -> pool.dot(5, 31, 0, 1), 5, 2, "32");
        makes("the first with the last", counted(), pool -> pool.dot(5, 0, 31, 1), 5, 2, "32");
        makes("the last with itself", counted(), pool -> pool.dot(31, 31, 31, 1), 31, 2, "1024");
        makes("two with the last two", counted(), pool -> pool.dot(5, 0, 30, 2), 5, 2, "95");
        makes("the last two with two", counted(), pool -> pool.dot(5, 30, 0, 2), 5, 2, "95");
    }

    void promise10BeyondTheLastRegister() {
        int[][] cases = {{31, 0, 2}, {0, 31, 2}, {31, 31, 2}, {30, 0, 3}, {0, 30, 3}, {1, 0, 32}, {0, 1, 32}, {0, 0, 33}, {0, 0, 34}, {1, 1, 32},
            {0, 0, Integer.MAX_VALUE}, {1, 0, Integer.MAX_VALUE}, {0, 1, Integer.MAX_VALUE}, {31, 31, Integer.MAX_VALUE}, {31, 31, Integer.MAX_VALUE - 30},
            {0, 0, 65536}, {16, 0, 17}, {0, 16, 17}};
        for (int[] c : cases) {
            refuses("dot(5, " + c[0] + ", " + c[1] + ", " + c[2] + ")", counted(), pool -> pool.dot(5, c[0], c[1], c[2]), INDEX);
        }
    }

    void promise10NoProducts() {
        makes("none", counted(), pool -> pool.dot(5, 0, 0, 0), 5, 1, "0");
        makes("none from the last on", counted(), pool -> pool.dot(31, 31, 31, 0), 31, 1, "0");
        makes("one", counted(), pool -> pool.dot(5, 2, 3, 1), 5, 2, "12");
        for (int n = 1; n <= 3; n++) {
            int before = n;
            Sight.Maker below = made(64, pool -> {
                putAll(pool, "-1/2", "1/3", "1/5");
                pool.dot(9, 0, 1, before);
                pool.dot(8, 0, 1, 1);
            });
            makes("none behind others", below, pool -> pool.dot(9, 0, 0, 0), 9, 1, "0");
            answers("its sign", after(below, pool -> pool.dot(9, 0, 0, 0)), pool -> pool.sign(9), 0);
            answers("one of 0 behind others", after(below, pool -> pool.dot(9, 20, 0, 1)), pool -> pool.sign(9), 0);
        }
    }

    void promise10NIsLessThan0() {
        for (int n : new int[] {-1, -2, -31, -32, -33, Integer.MIN_VALUE, Integer.MIN_VALUE + 1}) {
            refuses("dot(5, 0, 0, " + n + ")", counted(), pool -> pool.dot(5, 0, 0, n), ARGUMENT);
            refuses("dot(5, 31, 31, " + n + ")", counted(), pool -> pool.dot(5, 31, 31, n), ARGUMENT);
        }
    }

    void promise10NoRegisterWhateverNIs() {
        for (int n : new int[] {0, 1, 2, 33, -1, Integer.MIN_VALUE, Integer.MAX_VALUE}) {
            for (int r : new int[] {-1, 32, Integer.MIN_VALUE, Integer.MAX_VALUE}) {
                refuses("dot to " + r + ", n " + n, counted(), pool -> pool.dot(r, 0, 0, n), INDEX);
                refuses("dot of " + r + ", n " + n, counted(), pool -> pool.dot(5, r, 0, n), INDEX);
                refuses("dot with " + r + ", n " + n, counted(), pool -> pool.dot(5, 0, r, n), INDEX);
            }
        }
    }

    void promise10WhichExceptionComesFirst() {
        refuses("beyond the last, and no room", full(), pool -> pool.dot(3, 0, 0, 33), INDEX);
        refuses("to no register, and no room", full(), pool -> pool.dot(32, 0, 0, 1), INDEX);
        refuses("n below 0 where no limb is left", full(), pool -> pool.dot(3, 0, 0, -1), ARGUMENT);
        refuses("no room alone", full(), pool -> pool.dot(3, 0, 0, 1), ROOM);
        refuses("no room alone, onto one of them", full(), pool -> pool.dot(2, 0, 0, 3), ROOM);
    }

    void promise10ToOneOfThem() {
        makes("to the first", counted(), pool -> pool.dot(0, 0, 1, 3), 0, 2, "20");
        makes("to one that comes later", counted(), pool -> pool.dot(3, 0, 1, 3), 3, 2, "20");
        makes("to the last of them", counted(), pool -> pool.dot(2, 0, 0, 3), 2, 2, "14");
        same("the others stay", Sight.registers(after(counted(), pool -> pool.dot(2, 0, 0, 3) + pool.set(2, 3, 1))), Sight.registers(counted()));
    }

    void promise11AroundWholeNumbers() {
        Object[][] cases = {{"0", "0"}, {"1/18446744073709551616", "0"}, {"-1/18446744073709551616", "-1"}, {"1", "1"}, {"-1", "-1"},
            {"18446744073709551615/18446744073709551616", "0"}, {"-18446744073709551615/18446744073709551616", "-1"},
            {"18446744073709551617/18446744073709551616", "1"}, {"-18446744073709551617/18446744073709551616", "-2"}, {"1/2", "0"}, {"-1/2", "-1"},
            {"3/2", "1"}, {"-3/2", "-2"}, {"-5", "-5"}, {"8589934591/2", "4294967295"}, {"-8589934591/2", "-4294967296"},
            {"-8589934592/2", "-4294967296"}, {"-8589934593/2", "-4294967297"}, {"-12884901886/3", "-4294967296"}, {"12884901887/3", "4294967295"}};
        for (Object[] c : cases) {
            FractionPool pool = with(100, (String) c[0]).make();
            pool.floor(9, 0);
            same("floor of " + c[0], Checks.text(pool, 9), (String) c[1]);
            pool.floor(0, 0);
            same("floor of " + c[0] + " onto itself", Checks.text(pool, 0), (String) c[1]);
        }
        refuses("to no register, and no room", full(), pool -> pool.floor(32, 0), INDEX);
        refuses("of no register where no limb is left", full(), pool -> pool.floor(3, 32), INDEX);
        refuses("no room alone", full(), pool -> pool.floor(3, 0), ROOM);
        refuses("no room for -1", full(), pool -> pool.floor(3, 2), ROOM);
        makes("room for 0", full(), pool -> pool.floor(3, 1), 3, 1, "0");
    }

    /** Each number is less than the next one, some by the least that there is. */
    void promise14LessAndEqualAndGreater() {
        String[] numbers = {"-18446744073709551616", "-18446744073709551615", "-4294967296", "-2147483648", "-2147483647", "-1", "-4294967295/4294967296",
            "-1/4294967295", "-1/4294967296", "0", "1/18446744073709551616", "1/18446744073709551615", "4294967295/4294967296", "1",
            "4294967297/4294967296", "4294967296/4294967295", "2147483647", "2147483648", "4294967295", "4294967296", "18446744073709551615"};
        for (int a = 0; a < numbers.length; a++) {
            FractionPool pool = with(200, numbers).make();
            for (int b = 0; b < numbers.length; b++) {
                int one = a;
                int other = b;
                same(numbers[a] + " against " + numbers[b], Checks.answer(() -> pool.compare(one, other)), Integer.toString(Integer.compare(a, b)));
            }
        }
        Sight.Maker equal = with(64, "2/6", "1/3", "-0", "-0.5", "-1/2");
        answers("equal ones", equal, pool -> pool.compare(0, 1), 0);
        answers("0 and 0", equal, pool -> pool.compare(2, 31), 0);
        answers("equal ones below 0", equal, pool -> pool.compare(3, 4), 0);
        answers("one with itself", equal, pool -> pool.compare(4, 4), 0);
        same("compare changes nothing", Sight.all(after(full(), pool -> pool.compare(0, 1))), Sight.all(full()));
    }

    void promise15Beside0() {
        Sight.Maker maker = with(64, "-1/18446744073709551616", "0", "1/18446744073709551616", "-18446744073709551616", "18446744073709551616", "-0");
        int[] due = {-1, 0, 1, -1, 1, 0, 0};
        for (int r = 0; r < due.length; r++) {
            int register = r;
            answers("sign(" + r + ")", maker, pool -> pool.sign(register), due[r]);
        }
    }

    void promise16TheLongest() {
        Sight.Maker whole = made(1024, pool -> fill(pool, 0, 993));
        answers("the longest numerator", whole, pool -> pool.length(0, false), 32 * 992);
        answers("its denominator", whole, pool -> pool.length(0, true), 1);
        Sight.Maker part = made(1024, pool -> {
            fill(pool, 0, 992);
            pool.power(0, 0, -1);
        });
        answers("the longest denominator", part, pool -> pool.length(0, true), 32 * 991);
        answers("its numerator", part, pool -> pool.length(0, false), 1);
        answers("0", part, pool -> pool.length(1, false), 0);
        answers("the denominator of 0", part, pool -> pool.length(1, true), 1);
    }

    void promise17TheLimbsAndBehindThem() {
        Sight.Maker maker = with(64, "-79228162514264337593543950335/18446744073709551616", "9223372041149743103", "0");
        int[][] cases = {{0, 0, 0, -1}, {0, 0, 1, -1}, {0, 0, 2, -1}, {0, 0, 3, 0}, {0, 1, 0, 0}, {0, 1, 1, 0}, {0, 1, 2, 1}, {0, 1, 3, 0},
            {1, 0, 0, -1}, {1, 0, 1, Integer.MIN_VALUE}, {1, 0, 2, 0}, {1, 1, 0, 1}, {1, 1, 1, 0}, {2, 0, 0, 0}, {2, 1, 0, 1}, {2, 1, 1, 0}, {31, 0, 0, 0},
            {31, 1, 0, 1}, {31, 1, 1, 0}};
        for (int[] c : cases) {
            answers("limb(" + c[0] + ", " + c[1] + ", " + c[2] + ")", maker, pool -> pool.limb(c[0], c[1] == 1, c[2]), c[3]);
        }
        for (int k : new int[] {4, 5, 6, 32, 33, 63, 64, 65, 1023, 1024, 1 << 27, 1 << 30, Integer.MAX_VALUE}) {
            for (int r : new int[] {0, 1, 2, 31}) {
                answers("limb(" + r + ", false, " + k + ")", maker, pool -> pool.limb(r, false, k), 0);
                answers("limb(" + r + ", true, " + k + ")", maker, pool -> pool.limb(r, true, k), 0);
            }
        }
    }

    void promise17KIsLessThan0() {
        Sight.Maker maker = with(64, "-5/3", "0");
        for (int k : new int[] {-1, -2, -32, Integer.MIN_VALUE, Integer.MIN_VALUE + 1}) {
            refuses("limb(0, false, " + k + ")", maker, pool -> pool.limb(0, false, k), INDEX);
            refuses("limb(1, true, " + k + ")", maker, pool -> pool.limb(1, true, k), INDEX);
            refuses("limb(32, true, " + k + ")", maker, pool -> pool.limb(32, true, k), INDEX);
        }
        answers("limb(0, false, 0)", maker, pool -> pool.limb(0, false, 0), 5);
    }
}
