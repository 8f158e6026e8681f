import java.math.BigInteger;

/** Each sentence of 'Terms', in the order of the document, which stands before its test word for word. */
public final class TermsTest extends Boundaries {
    private static final long LIMB = 1L << 32;
    private static final String TWO_TO_64 = "18446744073709551616";

    private interface At {
        long on(FractionPool pool, int r);
    }

    private record NamedAt(String name, At at) {
    }

    public static void main(String[] args) throws IllegalAccessException {
        new TermsTest().runAll();
    }

    // REGISTERS 0 .. 31 have a FRACTION each, at first 0: a whole number, its NUMERATOR, over another one
    // greater than 0, its DENOMINATOR, that have no common divisor but 1 (0 has the denominator 1).
    void terms01RegistersAndTheirFractions() {
        FractionPool pool = new FractionPool(1024);
        for (int r = 0; r < 32; r++) {
            same("register " + r + " at first", sizes(pool, r), "0 0 1");
        }
        for (int r = 0; r < 32; r++) {
            pool.set(r, 6 * r - 60, -90);
        }
        for (int r = 0; r < 32; r++) {
            BigInteger top = BigInteger.valueOf(60 - 6 * r);
            BigInteger common = top.gcd(BigInteger.valueOf(90));
            String due = top.signum() + " " + top.abs().divide(common) + " " + 90 / common.intValue();
            same("register " + r, sizes(pool, r), due);
        }
        Use[] noRegisters = {at -> at.sign(-1), at -> at.sign(32), at -> at.set(-1, 1, 1), at -> at.set(32, 1, 1)};
        for (Use use : noRegisters) {
            refuses("no register", () -> new FractionPool(64), use, INDEX);
        }
    }

    /** Sign, numerator's and denominator's size of a register with short ones. */
    private static String sizes(FractionPool pool, int r) {
        return pool.sign(r) + " " + pool.limb(r, false, 0) + " " + pool.limb(r, true, 0);
    }

    // The LENGTH of a whole number is how many bits its size has (0 for 0).
    void terms02Length() {
        FractionPool pool = new FractionPool(1024);
        same("the length of 0", Checks.answer(() -> pool.length(0, false)), "0");
        for (int bits = 1; bits <= 63; bits++) {
            long least = 1L << bits - 1;
            pool.set(0, least, 1);
            pool.set(1, -least - (least - 1), 1);
            pool.set(2, 1, least);
            same("2^" + (bits - 1), Integer.toString(pool.length(0, false)), Integer.toString(bits));
            same("-(2^" + bits + " - 1)", Integer.toString(pool.length(1, false)), Integer.toString(bits));
            same("1 over 2^" + (bits - 1), Integer.toString(pool.length(2, true)), Integer.toString(bits));
        }
        putPowerOfTwo(pool, 3, 12345);
        same("2^12345", Integer.toString(pool.length(3, false)), "12346");
    }

    // Its LIMBS are its size in parts of 32 bits, the lowest first, as few as hold it (none for 0).
    void terms03Limbs() {
        BigInteger size = new BigInteger("123456789abcdef0fedcba98765432100f1e2d3c", 16);
        FractionPool pool = new FractionPool(64);
        Checks.put(pool, 0, size.negate().toString());
        Checks.put(pool, 1, "1/" + size);
        int[] due = {0x0f1e2d3c, 0x76543210, 0xfedcba98, 0x9abcdef0, 0x12345678, 0, 0};
        for (int k = 0; k < due.length; k++) {
            int place = k;
            same("limb " + k, Checks.answer(() -> pool.limb(0, false, place)), Integer.toString(due[k]));
            same("the denominator's limb " + k, Checks.answer(() -> pool.limb(1, true, place)), Integer.toString(due[k]));
        }
        same("as few as hold it", Checks.answer(() -> pool.copy(2, 0)), "6");
        same("0 has none", Checks.answer(() -> pool.copy(2, 3)), "1");
        same("limb 0 of 0", Checks.answer(() -> pool.limb(3, false, 0)), "0");
    }

    // A register NEEDS as many limbs as its numerator and its denominator have.
    void terms04Needs() {
        FractionPool pool = new FractionPool(1024);
        String[] numbers = {"0", "1", "1/3", "4294967295/4294967294", "4294967296/4294967297", "-" + TWO_TO_64, "-1/" + TWO_TO_64, TWO_TO_64 + "/3"};
        int[] due = {1, 2, 2, 2, 4, 4, 4, 4};
        int all = 32;
        for (int i = 0; i < numbers.length; i++) {
            Checks.put(pool, i, numbers[i]);
            int register = i;
            all += due[i] - 1;
            same("what " + numbers[i] + " needs", Checks.answer(() -> pool.copy(31, register)), Integer.toString(due[i]));
            same("all with " + numbers[i], Checks.answer(pool::used), Integer.toString(all + due[i] - 1));
        }
    }

    // The ROOM is the constructor's number if that is 64 .. 1024, else 1024.
    void terms05Room() {
        int[][] rooms = {{64, 64}, {65, 65}, {600, 600}, {1023, 1023}, {1024, 1024}, {63, 1024}, {1025, 1024}, {0, 1024}, {-64, 1024},
            {Integer.MAX_VALUE, 1024}, {Integer.MIN_VALUE, 1024}};
        for (int[] room : rooms) {
            Sight.Maker full = made(room[0], pool -> fill(pool, 0, room[1] - 31));
            answers("all of the room of " + room[0], full, FractionPool::used, room[1]);
            refuses("more than the room of " + room[0], full, pool -> pool.set(1, 1, 1), ROOM);
        }
    }

    // All registers together never need more than the room; what is in between is not counted.
    void terms06AllTogetherAndInBetween() {
        Sight.Maker full = made(64, pool -> {
            fill(pool, 0, 9);
            fill(pool, 1, 9);
            fill(pool, 2, 9);
            pool.subtract(3, 4, 0);
        });
        answers("used()", full, FractionPool::used, 28 + 4 * 9);
        refuses("one limb more", full, pool -> pool.set(4, 1, 1), ROOM);
        refuses("one limb more than one has", full, pool -> pool.add(0, 0, 1), ROOM);
        makes("fewer than there were", full, pool -> pool.divide(0, 0, 3), 0, 2, "-1");
        answers("as many as there were", full, pool -> pool.copy(0, 3), 9);
        makes("products that are longer than all that is left", full, pool -> pool.dot(4, 0, 2, 2), 4, 1, "0");
        answers("multiples of 2^-4000 that are long in between", full, pool -> pool.align(1, 0, -4000), 9);
        makes("400 characters that are 0", after(full, pool -> Checks.typeAll(pool, "0." + "0".repeat(398)) ? 1 : 0), pool -> pool.read(4), 4, 1, "0");
    }

    // ROUNDING to p bits: the fraction m * 2^e next to it, of all those with whole m and e where m is less
    // than 2^p in size; of two that are as near, the one whose m is even when it is at least 2^(p - 1) in
    // size (for p = 1 the greater one in size).
    void terms07Rounding() {
        Object[][] cases = {{"1/3", 1, "1/4"}, {"1/3", 2, "3/8"}, {"1/3", 3, "5/16"}, {"-1/3", 3, "-5/16"}, {"1000", 1, "1024"}, {"1000", 5, "992"},
            {"1000", 7, "1000"}, {"0.7", 1, "1/2"}, {"0.8", 1, "1"}, {"4294967295", 31, "4294967296"}, {"-4294967295", 32, "-4294967295"},
            {"5", 2, "4"}, {"7", 2, "8"}, {"-7", 2, "-8"}, {"9", 3, "8"}, {"11", 3, "12"}, {"13", 3, "12"}, {"15", 3, "16"}, {"-9/8", 3, "-1"},
            {"3", 1, "4"}, {"6", 1, "8"}, {"-3/2", 1, "-2"}, {"3/16", 1, "1/4"}, {"0.749", 1, "1/2"}, {"-0.751", 1, "-1"}};
        for (Object[] c : cases) {
            FractionPool pool = with(64, (String) c[0]).make();
            pool.round(1, 0, (int) c[1]);
            same(c[0] + " to " + c[1] + " bits", Checks.text(pool, 1), (String) c[2]);
        }
    }

    // (0 is 0.)
    void terms08RoundingOf0() {
        for (int p : new int[] {1, 2, 53, 1024}) {
            makes("0 to " + p + " bits", with(64, "0", "5"), pool -> pool.round(1, 0, p), 1, 1, "0");
        }
    }

    // TEXT: at most 400 characters (33 .. 126) may be typed.
    void terms09Text() {
        for (int c = 1; c < 256; c++) {
            long character = c;
            answers("character " + c, () -> new FractionPool(64), pool -> pool.type(character) ? 1 : 0, c >= 33 && c <= 126 ? 1 : 0);
        }
        FractionPool pool = new FractionPool(64);
        for (int i = 1; i <= 400; i++) {
            same("character number " + i, Boolean.toString(pool.type('0')), "true");
        }
        same("character number 401", Boolean.toString(pool.type('0')), "false");
        pool.read(0);
        same("the first of the next text", Boolean.toString(pool.type('0')), "true");
    }

    // A NUMBER is figures 0 .. 9, one at least, or such figures, a point and figures behind it, one at least;
    // perhaps with - before all that; or a whole one like that (no point), a / and figures, one at least,
    // that are not all 0.
    void terms10Number() {
        String[][] numbers = {{"0123456789", "123456789"}, {"7", "7"}, {"-7", "-7"}, {"0", "0"}, {"-0", "0"}, {"1.5", "3/2"}, {"-00.250", "-1/4"},
            {"3/4", "3/4"}, {"-3/4", "-3/4"}, {"6/004", "3/2"}, {"-0/9", "0"}, {"8/10", "4/5"}};
        for (String[] c : numbers) {
            FractionPool pool = new FractionPool(64);
            Checks.put(pool, 5, c[0]);
            same("the number " + c[0], Checks.text(pool, 5), c[1]);
        }
        String[] none = {"", "-", ".", "/", "1.", ".1", "-.1", "1.-1", "1-", "--1", "+1", "1/", "/1", "-/1", "1/-1", "1/+1", "1.5/2", "1/2.5", "1/2/3",
            "1/0", "1/00", "-1/0", "0/0", "1.2.3", "1e3", "0x1", "1,5", "a", "1:", "1;"};
        for (String text : none) {
            refusesToRead(text, made(64, pool -> Checks.typeAll(pool, text)), 5, ARGUMENT, Model.faultOf(text));
        }
    }

    // The FAULT of a text that is none: the place, from 0, of the first character with which no number begins
    // by what is up to it; the text's length, if something is missing behind it; the place of the /, if all
    // figures behind it are 0.
    void terms11Fault() {
        Object[][] cases = {{"x", 0}, {"-x", 1}, {"12x", 2}, {"1.x", 2}, {"1.5.", 3}, {"1.5/2", 3}, {"1/x", 2}, {"1/2/", 3}, {"1/0x", 3}, {"1/0.", 3},
            {"1-2", 1}, {"xx", 0}, {"", 0}, {"-", 1}, {"12.", 3}, {"12/", 3}, {"-12/", 4}, {"1/0", 1}, {"123/00", 3}, {"-1/000", 2}, {"0/0", 1}};
        FractionPool pool = new FractionPool(64);
        for (Object[] c : cases) {
            Checks.typeAll(pool, (String) c[0]);
            Checks.answer(() -> pool.read(0));
            same("the fault of " + c[0], Checks.answer(pool::fault), c[1].toString());
        }
        for (String last : new String[] {".", "/"}) {
            Checks.typeAll(pool, "1".repeat(399) + last);
            Checks.answer(() -> pool.read(0));
            same("something is missing behind 400 characters that end in " + last, Checks.answer(pool::fault), "400");
        }
    }

    /** All calls that make a fraction, with what they need: register 0 has 2^33, 1 has 1/3 and 2 has 2^64. */
    private static NamedAt[] makers() {
        return new NamedAt[] {new NamedAt("set", (pool, r) -> pool.set(r, LIMB, LIMB + 1)), new NamedAt("copy", (pool, r) -> pool.copy(r, 0)),
            new NamedAt("add", (pool, r) -> pool.add(r, 0, 1)), new NamedAt("subtract", (pool, r) -> pool.subtract(r, 1, 0)),
            new NamedAt("multiply", (pool, r) -> pool.multiply(r, 0, 2)), new NamedAt("divide", (pool, r) -> pool.divide(r, 1, 2)),
            new NamedAt("power", (pool, r) -> pool.power(r, 0, -3)), new NamedAt("dot", (pool, r) -> pool.dot(r, 0, 1, 2)),
            new NamedAt("floor", (pool, r) -> pool.floor(r, 0)), new NamedAt("round", (pool, r) -> pool.round(r, 1, 65)),
            new NamedAt("align", (pool, r) -> pool.align(r, 1, -64)), new NamedAt("read", (pool, r) -> pool.read(r))};
    }

    private static final int[] MAKERS_NEED = {4, 3, 3, 3, 5, 4, 5, 3, 3, 6, 5, 3};

    private static Sight.Maker forMakers(int room) {
        return made(room, pool -> {
            pool.set(0, 1L << 33, 1);
            pool.set(1, 1, 3);
            Checks.put(pool, 2, TWO_TO_64);
            fill(pool, 30, 40);
            Checks.typeAll(pool, "-4294967296");
        });
    }

    // Calls that make a fraction for a register answer how many limbs it needs.
    void terms12CallsThatMakeAFractionAnswerWhatItNeeds() {
        NamedAt[] makers = makers();
        for (int i = 0; i < makers.length; i++) {
            At at = makers[i].at();
            for (int r : new int[] {5, 31, 2}) {
                Sight.Maker after = after(forMakers(200), pool -> at.on(pool, r));
                int limbs = (after.make().length(r, false) + 31) / 32 + (after.make().length(r, true) + 31) / 32;
                same("limbs of what " + makers[i].name() + " made", Integer.toString(limbs), Integer.toString(MAKERS_NEED[i]));
                answers(makers[i].name(), forMakers(200), pool -> at.on(pool, r), MAKERS_NEED[i]);
            }
        }
        answers("swap, whose first register has 2^64 then", forMakers(200), pool -> pool.swap(1, 2), 4);
    }

    // A call that throws changes nothing (but each read() uses the text up, and fault() tells of that text,
    // whatever is thrown); of several exceptions that fit the one named first is thrown.
    void terms13ACallThatThrowsChangesNothing() {
        Sight.Maker full = made(64, pool -> {
            Checks.typeAll(pool, "-1x");
            Checks.answer(() -> pool.read(0));
            pool.set(1, -5, 3);
            fill(pool, 0, 32);
            pool.print(1);
            Checks.typeAll(pool, "12/7");
        });
        answers("used()", full, FractionPool::used, 64);
        NamedAt[] calls = {new NamedAt("set", (pool, r) -> pool.set(r, 1, 1)), new NamedAt("copy", (pool, r) -> pool.copy(r, 1)),
            new NamedAt("add", (pool, r) -> pool.add(r, 1, 1)), new NamedAt("subtract", (pool, r) -> pool.subtract(r, 2, 1)),
            new NamedAt("multiply", (pool, r) -> pool.multiply(r, 1, 1)), new NamedAt("divide", (pool, r) -> pool.divide(r, 1, 1)),
            new NamedAt("power", (pool, r) -> pool.power(r, 2, 0)), new NamedAt("dot", (pool, r) -> pool.dot(r, 0, 1, 2)),
            new NamedAt("floor", (pool, r) -> pool.floor(r, 1)), new NamedAt("round", (pool, r) -> pool.round(r, 1, 1)),
            new NamedAt("align", (pool, r) -> pool.align(r, 1, 0))};
        for (NamedAt call : calls) {
            refuses(call.name() + " without room", full, pool -> call.at().on(pool, 31), ROOM);
            refuses(call.name() + " to no register", full, pool -> call.at().on(pool, 32), INDEX);
        }
        refusesToRead("read without room", full, 31, ROOM, FractionPool.NONE);
        refusesToRead("read to no register", full, 32, INDEX, FractionPool.NONE);
        Sight.Maker none = after(full, pool -> pool.type('.') ? 1 : 0);
        refusesToRead("read of no number", none, 31, ARGUMENT, 4);
        refusesToRead("read of no number to no register", none, -1, INDEX, 4);
        refuses("print of no register", full, pool -> pool.print(32), INDEX);
    }

    void terms13OfSeveralExceptionsTheOneNamedFirst() {
        Sight.Maker full = made(64, pool -> fill(pool, 0, 33));
        NamedAt[] index = {new NamedAt("set, d is 0", (pool, r) -> pool.set(r, 1, 0)), new NamedAt("divide by 0", (pool, r) -> pool.divide(r, 0, 1)),
            new NamedAt("power with 1001", (pool, r) -> pool.power(r, 0, 1001)), new NamedAt("power of 0", (pool, r) -> pool.power(r, 1, -1)),
            new NamedAt("dot with -1", (pool, r) -> pool.dot(r, 0, 0, -1)), new NamedAt("dot of no a with -1", (pool, r) -> pool.dot(0, r, 0, -1)),
            new NamedAt("dot of no b with -1", (pool, r) -> pool.dot(0, 0, r, -1)), new NamedAt("round with 0", (pool, r) -> pool.round(0, r, 0)),
            new NamedAt("align with 4001", (pool, r) -> pool.align(0, r, 4001)), new NamedAt("copy without room", (pool, r) -> pool.copy(r, 0))};
        for (NamedAt call : index) {
            refuses(call.name(), full, pool -> call.at().on(pool, 32), INDEX);
        }
        refuses("dot beyond the last register, without room", full, pool -> pool.dot(1, 0, 0, 33), INDEX);
        refuses("dot with -1, without room", full, pool -> pool.dot(1, 0, 0, -1), ARGUMENT);
        refuses("power with -1001 of 0", full, pool -> pool.power(2, 1, -1001), ARGUMENT);
        refuses("power with 1001, without room", full, pool -> pool.power(1, 0, 1001), ARGUMENT);
        refuses("power of 0 with -1, without room", full, pool -> pool.power(2, 1, -1), ARITHMETIC);
        refuses("round with 1025, without room", full, pool -> pool.round(1, 0, 1025), ARGUMENT);
        refuses("align with -4001, without room", full, pool -> pool.align(1, 0, -4001), ARGUMENT);
        refuses("set, d is 0, without room", full, pool -> pool.set(1, Long.MAX_VALUE, 0), ARITHMETIC);
        refuses("divide by 0, without room", full, pool -> pool.divide(1, 0, 2), ARITHMETIC);
        refusesToRead("no number, without room", made(64, pool -> {
            fill(pool, 0, 33);
            Checks.typeAll(pool, "1/0");
        }), 1, ARGUMENT, 1);
    }

    // IndexOutOfBoundsException, wherever it is named: there is no such register.
    void terms14ThereIsNoSuchRegister() {
        NamedAt[] calls = {new NamedAt("set(r)", (pool, r) -> pool.set(r, 3, 7)), new NamedAt("copy(r, 1)", (pool, r) -> pool.copy(r, 1)),
            new NamedAt("copy(1, r)", (pool, r) -> pool.copy(1, r)), new NamedAt("swap(r, 1)", (pool, r) -> pool.swap(r, 1)),
            new NamedAt("swap(1, r)", (pool, r) -> pool.swap(1, r)), new NamedAt("add(r, 1, 2)", (pool, r) -> pool.add(r, 1, 2)),
            new NamedAt("add(1, r, 2)", (pool, r) -> pool.add(1, r, 2)), new NamedAt("add(1, 2, r)", (pool, r) -> pool.add(1, 2, r)),
            new NamedAt("subtract(r, 1, 2)", (pool, r) -> pool.subtract(r, 1, 2)), new NamedAt("subtract(1, r, 2)", (pool, r) -> pool.subtract(1, r, 2)),
            new NamedAt("subtract(1, 2, r)", (pool, r) -> pool.subtract(1, 2, r)), new NamedAt("multiply(r, 1, 2)", (pool, r) -> pool.multiply(r, 1, 2)),
            new NamedAt("multiply(1, r, 2)", (pool, r) -> pool.multiply(1, r, 2)), new NamedAt("multiply(1, 2, r)", (pool, r) -> pool.multiply(1, 2, r)),
            new NamedAt("divide(r, 1, 2)", (pool, r) -> pool.divide(r, 1, 2)), new NamedAt("divide(1, r, 2)", (pool, r) -> pool.divide(1, r, 2)),
            new NamedAt("divide(1, 2, r)", (pool, r) -> pool.divide(1, 2, r)), new NamedAt("power(r, 1, 2)", (pool, r) -> pool.power(r, 1, 2)),
            new NamedAt("power(1, r, 2)", (pool, r) -> pool.power(1, r, 2)), new NamedAt("dot(r, 1, 2, 1)", (pool, r) -> pool.dot(r, 1, 2, 1)),
            new NamedAt("dot(1, r, 2, 1)", (pool, r) -> pool.dot(1, r, 2, 1)), new NamedAt("dot(1, 2, r, 1)", (pool, r) -> pool.dot(1, 2, r, 1)),
            new NamedAt("dot(r, 1, 2, 0)", (pool, r) -> pool.dot(r, 1, 2, 0)), new NamedAt("dot(1, r, 2, 0)", (pool, r) -> pool.dot(1, r, 2, 0)),
            new NamedAt("dot(1, 2, r, 0)", (pool, r) -> pool.dot(1, 2, r, 0)), new NamedAt("floor(r, 1)", (pool, r) -> pool.floor(r, 1)),
            new NamedAt("floor(1, r)", (pool, r) -> pool.floor(1, r)), new NamedAt("round(r, 1, 2)", (pool, r) -> pool.round(r, 1, 2)),
            new NamedAt("round(1, r, 2)", (pool, r) -> pool.round(1, r, 2)), new NamedAt("align(r, 1, 2)", (pool, r) -> pool.align(r, 1, 2)),
            new NamedAt("align(1, r, 2)", (pool, r) -> pool.align(1, r, 2)), new NamedAt("compare(r, 1)", (pool, r) -> pool.compare(r, 1)),
            new NamedAt("compare(1, r)", (pool, r) -> pool.compare(1, r)), new NamedAt("sign(r)", (pool, r) -> pool.sign(r)),
            new NamedAt("length(r, false)", (pool, r) -> pool.length(r, false)), new NamedAt("length(r, true)", (pool, r) -> pool.length(r, true)),
            new NamedAt("limb(r, false, 0)", (pool, r) -> pool.limb(r, false, 0)), new NamedAt("limb(r, true, 0)", (pool, r) -> pool.limb(r, true, 0)),
            new NamedAt("print(r)", (pool, r) -> pool.print(r))};
        Sight.Maker maker = made(100, pool -> {
            for (int r = 0; r < 32; r++) {
                pool.set(r, r + 2, 5);
            }
        });
        for (NamedAt call : calls) {
            for (int r = 0; r < 32; r++) {
                int register = r;
                FractionPool pool = maker.make();
                String got = Checks.answer(() -> call.at().on(pool, register));
                same(call.name() + " for " + r, got.startsWith("throws") ? got : "an answer", "an answer");
            }
            for (int r : NO_REGISTERS) {
                refuses(call.name() + " for " + r, maker, pool -> call.at().on(pool, r), INDEX);
            }
        }
        for (int r : NO_REGISTERS) {
            refusesToRead("read(" + r + ")", after(maker, pool -> pool.type('8') ? 1 : 0), r, INDEX, FractionPool.NONE);
        }
        refuses("limb(0, false, -1)", maker, pool -> pool.limb(0, false, -1), INDEX);
        refuses("dot(0, 30, 0, 3)", maker, pool -> pool.dot(0, 30, 0, 3), INDEX);
        refuses("dot(0, 0, 30, 3)", maker, pool -> pool.dot(0, 0, 30, 3), INDEX);
    }

    // UnsupportedOperationException, wherever it is named: all registers together would need more than the room.
    void terms15AllRegistersWouldNeedMoreThanTheRoom() {
        NamedAt[] makers = makers();
        int before = forMakers(200).make().used();
        for (int i = 0; i < makers.length; i++) {
            At at = makers[i].at();
            int due = before - 1 + MAKERS_NEED[i];
            answers(makers[i].name() + " in just the room", forMakers(due), pool -> at.on(pool, 9) * 0 + pool.used(), due);
            if (makers[i].name().equals("read")) {
                refusesToRead("read in one limb less", forMakers(due - 1), 9, ROOM, FractionPool.NONE);
            } else {
                refuses(makers[i].name() + " in one limb less", forMakers(due - 1), pool -> at.on(pool, 9), ROOM);
            }
        }
    }
}
