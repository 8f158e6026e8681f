/** Each promise of the document by its number: ordinary inputs, the edges it names, and wrong inputs. */
public final class PromisesTest {
    private static final Class<IndexOutOfBoundsException> INDEX = IndexOutOfBoundsException.class;
    private static final Class<IllegalArgumentException> ARGUMENT = IllegalArgumentException.class;
    private static final Class<ArithmeticException> ARITHMETIC = ArithmeticException.class;
    private static final Class<UnsupportedOperationException> ROOM = UnsupportedOperationException.class;
    private static final int[] NO_REGISTERS = {-1, 32, Integer.MIN_VALUE, Integer.MAX_VALUE};

    private final Checks checks = new Checks("PromisesTest");

    public static void main(String[] args) {
        new PromisesTest().run();
    }

    private void run() {
        promise1NewObject();
        promise2Set();
        promise3Copy();
        promise4Swap();
        promise5Add();
        promise6Subtract();
        promise7Multiply();
        promise8Divide();
        promise9Power();
        promise9PowerAndRoom();
        promise10Dot();
        promise10DotInBetween();
        promise11Floor();
        promise12Round();
        promise12RoundTies();
        promise13Align();
        promise14Compare();
        promise15Sign();
        promise16Length();
        promise17Limb();
        promise18Used();
        promise19Type();
        promise20Read();
        promise20ReadUsesUp();
        promise21Fault();
        promise22Print();
        promise23Character();
        roomToTheLimb();
        throwingChangesNothing();
        checks.finish();
    }

    private static FractionPool pool(int room, String... numbers) {
        FractionPool pool = new FractionPool(room);
        for (int r = 0; r < numbers.length; r++) {
            Checks.put(pool, r, numbers[r]);
        }
        return pool;
    }

    private void holds(String what, FractionPool pool, int r, String due) {
        checks.same(what, Checks.text(pool, r), due);
        checks.due(what + ", its sign", () -> pool.sign(r), Checks.signOf(due));
    }

    /** 2^bits in a register, by squaring and doubling it, so that no other register needs a limb. */
    private static void putPowerOfTwo(FractionPool pool, int r, int bits) {
        pool.set(r, 1, 1);
        for (int bit = 31; bit >= 0; bit--) {
            pool.multiply(r, r, r);
            if ((bits >>> bit & 1) != 0) {
                pool.add(r, r, r);
            }
        }
    }

    private void promise1NewObject() {
        FractionPool pool = new FractionPool(64);
        for (int r = 0; r < 32; r++) {
            int register = r;
            checks.due("1: sign of register " + r, () -> pool.sign(register), 0);
            checks.due("1: denominator of register " + r, () -> pool.limb(register, true, 0), 1);
        }
        checks.due("1: used()", pool::used, 32);
        checks.due("1: fault()", pool::fault, FractionPool.NONE);
        checks.due("1: character(0)", () -> pool.character(0), -1);
        checks.thrown("1: no text", () -> pool.read(0), ARGUMENT);
        int[][] rooms = {{64, 64}, {65, 65}, {1023, 1023}, {1024, 1024}, {63, 1024}, {1025, 1024}, {0, 1024}, {-64, 1024},
            {Integer.MAX_VALUE, 1024}, {Integer.MIN_VALUE, 1024}};
        for (int[] room : rooms) {
            FractionPool of = new FractionPool(room[0]);
            putPowerOfTwo(of, 0, 32 * (room[1] - 32) - 1);
            checks.due("1: a full room of " + room[0], of::used, room[1]);
            checks.thrown("1: beyond the room of " + room[0], () -> of.set(1, 1, 1), ROOM);
        }
    }

    private void promise2Set() {
        FractionPool pool = new FractionPool(1024);
        long least = Long.MIN_VALUE;
        long most = Long.MAX_VALUE;
        Object[][] cases = {{6L, -4L, 2, "-3/2"}, {-6L, -4L, 2, "3/2"}, {0L, -5L, 1, "0"}, {0L, least, 1, "0"}, {5L, 1L, 2, "5"},
            {least, least, 2, "1"}, {least, 1L, 3, "-9223372036854775808"}, {1L, least, 3, "-1/9223372036854775808"},
            {least, -1L, 3, "9223372036854775808"}, {most, least, 4, "-9223372036854775807/9223372036854775808"},
            {least, 6L, 3, "-4611686018427387904/3"}, {4294967296L, 4294967295L, 3, "4294967296/4294967295"},
            {12L, 18L, 2, "2/3"}};
        for (Object[] c : cases) {
            String call = "2: set " + c[0] + " " + c[1];
            checks.due(call, () -> pool.set(31, (long) c[0], (long) c[1]), (int) c[2]);
            holds(call, pool, 31, (String) c[3]);
        }
        checks.thrown("2: set(0, 1, 0)", () -> pool.set(0, 1, 0), ARITHMETIC);
        checks.thrown("2: set(0, 0, 0)", () -> pool.set(0, 0, 0), ARITHMETIC);
        for (int r : NO_REGISTERS) {
            checks.thrown("2: set " + r, () -> pool.set(r, 1, 0), INDEX);
        }
    }

    private void promise3Copy() {
        FractionPool pool = pool(64, "-7/3");
        checks.due("3: copy(5, 0)", () -> pool.copy(5, 0), 2);
        holds("3: the copy", pool, 5, "-7/3");
        holds("3: what was copied", pool, 0, "-7/3");
        checks.due("3: copy(0, 0)", () -> pool.copy(0, 0), 2);
        pool.set(0, 9, 1);
        holds("3: the copy is its own", pool, 5, "-7/3");
        checks.due("3: copy(5, 6), a 0", () -> pool.copy(5, 6), 1);
        for (int r : NO_REGISTERS) {
            checks.thrown("3: copy to " + r, () -> pool.copy(r, 0), INDEX);
            checks.thrown("3: copy of " + r, () -> pool.copy(0, r), INDEX);
        }
        putPowerOfTwo(pool, 0, 32 * 20 - 1);
        checks.due("3: used()", pool::used, 52);
        checks.thrown("3: a copy beyond the room", () -> pool.copy(1, 0), ROOM);
        checks.due("3: onto itself in a room that is nearly full", () -> pool.copy(0, 0), 21);
    }

    private void promise4Swap() {
        FractionPool pool = pool(64, "-7/3", "12345678901234567890", "1/2");
        checks.due("4: swap(0, 1)", () -> pool.swap(0, 1), 3);
        holds("4: register 0", pool, 0, "12345678901234567890");
        holds("4: register 1", pool, 1, "-7/3");
        checks.due("4: swap(0, 1) again", () -> pool.swap(0, 1), 2);
        checks.due("4: swap(1, 31)", () -> pool.swap(1, 31), 1);
        holds("4: register 31", pool, 31, "12345678901234567890");
        checks.due("4: swap(31, 31)", () -> pool.swap(31, 31), 3);
        holds("4: register 31 with itself", pool, 31, "12345678901234567890");
        checks.due("4: a longer denominator", () -> pool.set(3, 1, 1L << 40), 3);
        checks.due("4: swap(3, 2)", () -> pool.swap(3, 2), 2);
        holds("4: register 2", pool, 2, "1/1099511627776");
        holds("4: register 3", pool, 3, "1/2");
        pool.set(0, 1, 1);
        holds("4: register 2 after all that", pool, 2, "1/1099511627776");
        checks.due("4: used()", pool::used, 32 + 1 + 2 + 2 + 1);
        for (int r : NO_REGISTERS) {
            checks.thrown("4: swap " + r, () -> pool.swap(r, 0), INDEX);
            checks.thrown("4: swap with " + r, () -> pool.swap(0, r), INDEX);
        }
    }

    private void promise5Add() {
        FractionPool pool = pool(1024, "1/3", "1/6", "-1/3", "0", "4294967295", "1", "1/4294967296", "5/12", "7/18");
        Object[][] cases = {{0, 1, 2, "1/2"}, {0, 2, 1, "0"}, {0, 3, 2, "1/3"}, {3, 3, 1, "0"}, {4, 5, 3, "4294967296"},
            {4, 6, 4, "18446744069414584321/4294967296"}, {2, 2, 2, "-2/3"}, {1, 2, 2, "-1/6"}, {7, 8, 2, "29/36"}};
        for (Object[] c : cases) {
            checks.due("5: add " + c[0] + " " + c[1], () -> pool.add(20, (int) c[0], (int) c[1]), (int) c[2]);
            holds("5: add " + c[0] + " " + c[1], pool, 20, (String) c[3]);
        }
        checks.due("5: add onto itself", () -> pool.add(0, 0, 0), 2);
        holds("5: add onto itself", pool, 0, "2/3");
        wrongRegisters("5: add", pool::add);
    }

    private void promise6Subtract() {
        FractionPool pool = pool(1024, "1/3", "1/6", "-1/3", "0", "18446744073709551616", "1");
        Object[][] cases = {{0, 1, 2, "1/6"}, {1, 0, 2, "-1/6"}, {0, 0, 1, "0"}, {0, 2, 2, "2/3"}, {3, 0, 2, "-1/3"}, {0, 3, 2, "1/3"},
            {4, 5, 3, "18446744073709551615"}, {5, 4, 3, "-18446744073709551615"}, {2, 2, 1, "0"}};
        for (Object[] c : cases) {
            checks.due("6: subtract " + c[0] + " " + c[1], () -> pool.subtract(20, (int) c[0], (int) c[1]), (int) c[2]);
            holds("6: subtract " + c[0] + " " + c[1], pool, 20, (String) c[3]);
        }
        checks.due("6: subtract onto b", () -> pool.subtract(0, 1, 0), 2);
        holds("6: subtract onto b", pool, 0, "-1/6");
        wrongRegisters("6: subtract", pool::subtract);
    }

    private void promise7Multiply() {
        FractionPool pool = pool(1024, "2/3", "-9/4", "0", "4294967295", "1/4294967295", "-1");
        Object[][] cases = {{0, 1, 2, "-3/2"}, {1, 1, 2, "81/16"}, {0, 2, 1, "0"}, {3, 3, 3, "18446744065119617025"}, {3, 4, 2, "1"},
            {1, 5, 2, "9/4"}, {2, 2, 1, "0"}};
        for (Object[] c : cases) {
            checks.due("7: multiply " + c[0] + " " + c[1], () -> pool.multiply(20, (int) c[0], (int) c[1]), (int) c[2]);
            holds("7: multiply " + c[0] + " " + c[1], pool, 20, (String) c[3]);
        }
        checks.due("7: multiply onto itself", () -> pool.multiply(0, 0, 0), 2);
        holds("7: multiply onto itself", pool, 0, "4/9");
        wrongRegisters("7: multiply", pool::multiply);
    }

    private void promise8Divide() {
        FractionPool pool = pool(1024, "2/3", "-8/9", "0", "7");
        Object[][] cases = {{0, 1, 2, "-3/4"}, {1, 0, 2, "-4/3"}, {1, 1, 2, "1"}, {2, 1, 1, "0"}, {0, 3, 2, "2/21"}};
        for (Object[] c : cases) {
            checks.due("8: divide " + c[0] + " " + c[1], () -> pool.divide(20, (int) c[0], (int) c[1]), (int) c[2]);
            holds("8: divide " + c[0] + " " + c[1], pool, 20, (String) c[3]);
        }
        checks.due("8: divide onto b", () -> pool.divide(0, 3, 0), 2);
        holds("8: divide onto b", pool, 0, "21/2");
        checks.thrown("8: divide by 0", () -> pool.divide(20, 0, 2), ARITHMETIC);
        checks.thrown("8: divide 0 by 0", () -> pool.divide(20, 2, 2), ARITHMETIC);
        checks.thrown("8: divide by 0 to no register", () -> pool.divide(32, 0, 2), INDEX);
        wrongRegisters("8: divide", pool::divide);
    }

    private interface Three {
        int run(int to, int a, int b);
    }

    /** No such register, in each of the three places. */
    private void wrongRegisters(String what, Three three) {
        for (int r : NO_REGISTERS) {
            checks.thrown(what + " to " + r, () -> three.run(r, 0, 1), INDEX);
            checks.thrown(what + " of " + r, () -> three.run(0, r, 1), INDEX);
            checks.thrown(what + " with " + r, () -> three.run(0, 1, r), INDEX);
        }
    }

    private void promise9Power() {
        FractionPool pool = pool(1024, "3/2", "0", "-2/3", "-1", "2");
        Object[][] cases = {{0, 10, 2, "59049/1024"}, {0, -3, 2, "8/27"}, {0, 0, 2, "1"}, {1, 0, 2, "1"}, {1, 5, 1, "0"}, {1, 1000, 1, "0"},
            {2, 3, 2, "-8/27"}, {2, 2, 2, "4/9"}, {2, -1, 2, "-3/2"}, {2, -2, 2, "9/4"}, {3, 999, 2, "-1"}, {3, -1000, 2, "1"},
            {2, 1, 2, "-2/3"}, {2, 0, 2, "1"}, {4, 64, 4, "18446744073709551616"}, {4, -32, 3, "1/4294967296"}};
        for (Object[] c : cases) {
            checks.due("9: power " + c[0] + " " + c[1], () -> pool.power(20, (int) c[0], (int) c[1]), (int) c[2]);
            holds("9: power " + c[0] + " " + c[1], pool, 20, (String) c[3]);
        }
        checks.due("9: power onto itself", () -> pool.power(0, 0, 2), 2);
        holds("9: power onto itself", pool, 0, "9/4");
        for (int n : new int[] {1001, -1001, Integer.MAX_VALUE, Integer.MIN_VALUE}) {
            checks.thrown("9: power " + n, () -> pool.power(20, 1, n), ARGUMENT);
            checks.thrown("9: power of no register " + n, () -> pool.power(20, 32, n), INDEX);
        }
        for (int r : NO_REGISTERS) {
            checks.thrown("9: power to " + r, () -> pool.power(r, 0, 1001), INDEX);
            checks.thrown("9: power of " + r, () -> pool.power(0, r, 2), INDEX);
        }
        checks.thrown("9: 0 to the -1", () -> pool.power(20, 1, -1), ARITHMETIC);
        checks.thrown("9: 0 to the -1000", () -> pool.power(1, 1, -1000), ARITHMETIC);
    }

    private void promise9PowerAndRoom() {
        FractionPool pool = pool(64, "2", "4", "3/2");
        checks.due("9: used()", pool::used, 35);
        checks.thrown("9: 2 to the 960 has 31 limbs, and with its denominator 31 are left", () -> pool.power(0, 0, 960), ROOM);
        checks.due("9: 2 to the 959 has 30", () -> pool.power(0, 0, 959), 31);
        checks.due("9: 2 to the 0 again", () -> pool.power(0, 0, 0), 2);
        checks.due("9: 4 to the -479", () -> pool.power(1, 1, -479), 1 + 30);
        checks.thrown("9: a power that has no place anywhere", () -> pool.power(2, 2, 1000), ROOM);
        checks.thrown("9: nor its denominator", () -> pool.power(1, 1, 1000), ROOM);
        checks.due("9: used()", pool::used, 64);
    }

    private void promise10Dot() {
        FractionPool pool = pool(1024, "1/2", "1/3", "1/6", "-1", "2", "3");
        checks.due("10: dot(6, 0, 3, 3)", () -> pool.dot(6, 0, 3, 3), 2);
        holds("10: dot(6, 0, 3, 3)", pool, 6, "2/3");
        checks.due("10: dot(6, 0, 3, 0)", () -> pool.dot(6, 0, 3, 0), 1);
        holds("10: dot(6, 0, 3, 0)", pool, 6, "0");
        checks.due("10: dot(6, 3, 3, 1)", () -> pool.dot(6, 3, 3, 1), 2);
        holds("10: dot(6, 3, 3, 1)", pool, 6, "1");
        checks.due("10: dot(6, 0, 1, 3), ranges that overlap", () -> pool.dot(6, 0, 1, 3), 2);
        holds("10: dot(6, 0, 1, 3)", pool, 6, "1/18");
        checks.due("10: dot(1, 0, 0, 3) to one of them", () -> pool.dot(1, 0, 0, 3), 2);
        holds("10: dot(1, 0, 0, 3)", pool, 1, "7/18");
        checks.due("10: dot(30, 0, 0, 32), all registers", () -> pool.dot(30, 0, 0, 32), 2);
        checks.due("10: dot(30, 31, 31, 1)", () -> pool.dot(30, 31, 31, 1), 1);
        checks.due("10: dot(30, 31, 31, 0)", () -> pool.dot(30, 31, 31, 0), 1);
        for (int r : NO_REGISTERS) {
            checks.thrown("10: dot to " + r, () -> pool.dot(r, 0, 0, -1), INDEX);
            checks.thrown("10: dot of " + r, () -> pool.dot(0, r, 0, 0), INDEX);
            checks.thrown("10: dot with " + r, () -> pool.dot(0, 0, r, 0), INDEX);
        }
        int[][] beyond = {{31, 0, 2}, {0, 31, 2}, {30, 0, 3}, {0, 30, 3}, {0, 0, 33}, {31, 31, Integer.MAX_VALUE}, {0, 0, Integer.MAX_VALUE}};
        for (int[] c : beyond) {
            checks.thrown("10: dot beyond the last " + c[0] + " " + c[1] + " " + c[2], () -> pool.dot(0, c[0], c[1], c[2]), INDEX);
        }
        checks.thrown("10: dot of -1 products", () -> pool.dot(0, 0, 0, -1), ARGUMENT);
        checks.thrown("10: dot of the fewest", () -> pool.dot(0, 31, 31, Integer.MIN_VALUE), ARGUMENT);
    }

    /** Sums and products on the way that have far more limbs than the room, and a sum that has few. */
    private void promise10DotInBetween() {
        FractionPool wide = new FractionPool(1024);
        putPowerOfTwo(wide, 0, 32 * 235);
        wide.set(9, 1, 3);
        wide.add(0, 0, 9);
        wide.copy(1, 0);
        wide.copy(3, 0);
        wide.set(9, 0, 1);
        wide.subtract(4, 9, 3);
        wide.set(2, 5, 7);
        wide.set(5, 5, 7);
        checks.due("10: used()", wide::used, 4 * 237 + 2 * 2 + 26);
        checks.due("10: products that cancel", () -> wide.dot(6, 0, 3, 3), 2);
        holds("10: products that cancel", wide, 6, "25/49");
        checks.thrown("10: a square that has no place", () -> wide.dot(6, 0, 0, 1), ROOM);
        checks.due("10: the sum of 0 products in its place", () -> wide.dot(0, 0, 0, 0), 1);
    }

    private void promise11Floor() {
        FractionPool pool = pool(1024, "7/2", "-7/2", "5", "-5", "0", "1/3", "-1/3", "-18446744073709551615/2", "18446744073709551617/2");
        String[] due = {"3", "-4", "5", "-5", "0", "0", "-1", "-9223372036854775808", "9223372036854775808"};
        for (int a = 0; a < due.length; a++) {
            int register = a;
            checks.due("11: floor of register " + a, () -> pool.floor(20, register), due[a].equals("0") ? 1 : due[a].length() > 10 ? 3 : 2);
            holds("11: floor of register " + a, pool, 20, due[a]);
        }
        checks.due("11: floor onto itself", () -> pool.floor(1, 1), 2);
        holds("11: floor onto itself", pool, 1, "-4");
        for (int r : NO_REGISTERS) {
            checks.thrown("11: floor to " + r, () -> pool.floor(r, 0), INDEX);
            checks.thrown("11: floor of " + r, () -> pool.floor(0, r), INDEX);
        }
    }

    private void rounded(String number, int p, String due) {
        FractionPool pool = pool(1024, number);
        pool.round(1, 0, p);
        holds("12: " + number + " rounded to " + p + " bits", pool, 1, due);
    }

    private void promise12Round() {
        rounded("1/3", 1, "1/4");
        rounded("1/3", 2, "3/8");
        rounded("-1/3", 2, "-3/8");
        rounded("1/3", 53, "6004799503160661/18014398509481984");
        rounded("0", 1, "0");
        rounded("0", 1024, "0");
        rounded("1", 1024, "1");
        rounded("1000", 1, "1024");
        rounded("767", 1, "512");
        rounded("769", 1, "1024");
        rounded("4294967295", 31, "4294967296");
        rounded("4294967295", 32, "4294967295");
        rounded("1/10", 4, "13/128");
        rounded("255/256", 4, "1");
        FractionPool pool = pool(1024, "5/7", "0");
        for (int p : new int[] {0, 1025, -1, Integer.MIN_VALUE, Integer.MAX_VALUE}) {
            checks.thrown("12: round to " + p, () -> pool.round(2, 0, p), ARGUMENT);
            checks.thrown("12: round 0 to " + p, () -> pool.round(2, 1, p), ARGUMENT);
            checks.thrown("12: round of no register to " + p, () -> pool.round(2, -1, p), INDEX);
        }
        for (int r : NO_REGISTERS) {
            checks.thrown("12: round to register " + r, () -> pool.round(r, 0, 0), INDEX);
            checks.thrown("12: round of register " + r, () -> pool.round(0, r, 1), INDEX);
        }
        checks.due("12: 5/7 to 1024 bits", () -> pool.round(2, 0, 1024), 65);
        checks.due("12: its numerator's length", () -> pool.length(2, false), 1024);
        checks.due("12: onto itself", () -> pool.round(0, 0, 3), 2);
        holds("12: onto itself", pool, 0, "3/4");
        FractionPool full = pool(64, "1/3");
        checks.thrown("12: to more bits than there is room for", () -> full.round(0, 0, 1024), ROOM);
        holds("12: nothing changed", full, 0, "1/3");
    }

    private void promise12RoundTies() {
        rounded("5", 2, "4");
        rounded("7", 2, "8");
        rounded("-5/2", 2, "-2");
        rounded("-7/2", 2, "-4");
        rounded("3/2", 1, "2");
        rounded("3", 1, "4");
        rounded("-3/4", 1, "-1");
        rounded("9", 3, "8");
        rounded("11", 3, "12");
        rounded("15", 3, "16");
        rounded("9.0001", 3, "10");
        rounded("10.9999", 3, "10");
        rounded("2305843009213693953", 61, "2305843009213693952");
        rounded("2305843009213693955", 61, "2305843009213693956");
        rounded("36893488147419103233/2", 64, "18446744073709551616");
    }

    private void aligned(String number, int e, String due) {
        FractionPool pool = pool(1024, number);
        pool.align(1, 0, e);
        holds("13: " + number + " aligned to 2^" + e, pool, 1, due);
    }

    private void promise13Align() {
        aligned("5/2", 0, "2");
        aligned("7/2", 0, "4");
        aligned("-5/2", 0, "-2");
        aligned("-7/2", 0, "-4");
        aligned("1/2", 0, "0");
        aligned("-1/2", 0, "0");
        aligned("-1/2", 1, "0");
        aligned("3/2", 0, "2");
        aligned("3", 1, "4");
        aligned("1", 1, "0");
        aligned("1.0001", 1, "2");
        aligned("1/3", -2, "1/4");
        aligned("3/8", -2, "1/2");
        aligned("1/8", -2, "0");
        aligned("0", 5, "0");
        aligned("0", -5, "0");
        aligned("3", 4000, "0");
        aligned("3", -4000, "3");
        aligned("-10", 3, "-8");
        aligned("12", 3, "16");
        aligned("1/3", -33, "2863311531/8589934592");
        FractionPool pool = pool(1024, "1/3");
        for (int e : new int[] {4001, -4001, Integer.MAX_VALUE, Integer.MIN_VALUE}) {
            checks.thrown("13: align to " + e, () -> pool.align(1, 0, e), ARGUMENT);
            checks.thrown("13: align of no register to " + e, () -> pool.align(1, 32, e), INDEX);
        }
        for (int r : NO_REGISTERS) {
            checks.thrown("13: align to register " + r, () -> pool.align(r, 0, 4001), INDEX);
            checks.thrown("13: align of register " + r, () -> pool.align(0, r, 0), INDEX);
        }
        checks.due("13: 1/3 aligned to 2^-4000", () -> pool.align(1, 0, -4000), 125 + 126);
        checks.due("13: its denominator's length", () -> pool.length(1, true), 4001);
        putPowerOfTwo(pool, 2, 3999);
        checks.due("13: half of 2^4000 is as near to 0", () -> pool.align(3, 2, 4000), 1);
        pool.add(2, 2, 0);
        checks.due("13: more than half of 2^4000", () -> pool.align(2, 2, 4000), 127);
        checks.due("13: is 2^4000", () -> pool.length(2, false), 4001);
        FractionPool full = pool(64, "1/3");
        checks.thrown("13: more bits than there is room for", () -> full.align(0, 0, -4000), ROOM);
        holds("13: nothing changed", full, 0, "1/3");
    }

    private void promise14Compare() {
        FractionPool pool = pool(1024, "-5", "-1/2", "-1/3", "0", "1/3", "1/2", "5", "18446744073709551616", "18446744073709551617");
        for (int a = 0; a < 9; a++) {
            for (int b = 0; b < 9; b++) {
                int one = a;
                int other = b;
                checks.due("14: compare " + a + " " + b, () -> pool.compare(one, other), Integer.compare(a, b));
            }
        }
        pool.set(20, 2, 6);
        checks.due("14: compare equal ones", () -> pool.compare(20, 4), 0);
        for (int r : NO_REGISTERS) {
            checks.thrown("14: compare " + r, () -> pool.compare(r, 0), INDEX);
            checks.thrown("14: compare with " + r, () -> pool.compare(0, r), INDEX);
        }
    }

    private void promise15Sign() {
        FractionPool pool = pool(64, "-1/9", "0", "1/9", "-0");
        int[] due = {-1, 0, 1, 0, 0};
        for (int a = 0; a < due.length; a++) {
            int register = a;
            checks.due("15: sign " + a, () -> pool.sign(register), due[a]);
        }
        for (int r : NO_REGISTERS) {
            checks.thrown("15: sign " + r, () -> pool.sign(r), INDEX);
        }
    }

    private void promise16Length() {
        FractionPool pool = pool(64, "0", "1", "-4294967295/4294967296", "4294967296/3", "-6148914691236517205");
        int[][] due = {{0, 1}, {1, 1}, {32, 33}, {33, 2}, {63, 1}};
        for (int a = 0; a < due.length; a++) {
            int register = a;
            checks.due("16: length " + a, () -> pool.length(register, false), due[a][0]);
            checks.due("16: length of the denominator " + a, () -> pool.length(register, true), due[a][1]);
        }
        for (int r : NO_REGISTERS) {
            checks.thrown("16: length " + r, () -> pool.length(r, false), INDEX);
            checks.thrown("16: length of the denominator " + r, () -> pool.length(r, true), INDEX);
        }
    }

    private void promise17Limb() {
        FractionPool pool = pool(64, "-18446744069414584321/4294967296", "0");
        int[][] due = {{0, 1, -2 + 1}, {0, 0, 1}, {1, 0, 0}, {1, 1, 1}, {0, 2, 0}, {1, 2, 0}, {0, Integer.MAX_VALUE, 0}, {1, 1 << 27, 0}};
        for (int[] c : due) {
            checks.due("17: limb " + c[0] + " " + c[1], () -> pool.limb(0, c[0] == 1, c[1]), c[2]);
        }
        checks.due("17: limb of 0", () -> pool.limb(1, false, 0), 0);
        checks.due("17: limb of the denominator of 0", () -> pool.limb(1, true, 0), 1);
        checks.due("17: limb of a register made last", () -> pool.limb(31, true, 1), 0);
        checks.thrown("17: limb -1", () -> pool.limb(0, false, -1), INDEX);
        checks.thrown("17: limb of the fewest", () -> pool.limb(0, true, Integer.MIN_VALUE), INDEX);
        for (int r : NO_REGISTERS) {
            checks.thrown("17: limb of " + r, () -> pool.limb(r, false, 0), INDEX);
        }
    }

    private void promise18Used() {
        FractionPool pool = new FractionPool(64);
        checks.due("18: at first", pool::used, 32);
        pool.set(0, Long.MIN_VALUE, 1);
        checks.due("18: three limbs instead of one", pool::used, 34);
        pool.copy(1, 0);
        checks.due("18: and a copy", pool::used, 36);
        pool.set(0, 1, 1);
        checks.due("18: fewer", pool::used, 35);
        pool.swap(0, 1);
        checks.due("18: exchanged", pool::used, 35);
        pool.set(0, 0, 1);
        pool.set(1, 0, 1);
        checks.due("18: as at first", pool::used, 32);
    }

    private void types(FractionPool pool, String what, long eight, int due) {
        checks.due("19: " + what, () -> pool.type(eight) ? 1 : 0, due);
    }

    private void promise19Type() {
        FractionPool pool = new FractionPool(64);
        types(pool, "nothing", 0, 1);
        types(pool, "a space", ' ', 0);
        types(pool, "byte 127", 127, 0);
        types(pool, "byte 255", 255, 0);
        types(pool, "byte 128 at the end", 128L << 56 | 0x31313131313131L, 0);
        types(pool, "a space behind a figure", 0x2031, 0);
        types(pool, "bytes behind the first 0 do not count", 0xFF20_0000_0032L, 1);
        checks.due("19: what was typed so far", () -> pool.read(0), 2);
        holds("19: what was typed so far", pool, 0, "2");
        types(pool, "the characters at the ends", '!' | '~' << 8, 1);
        checks.thrown("19: they are typed", () -> pool.read(0), ARGUMENT);
        types(pool, "eight", Checks.eight("-1234567"), 1);
        types(pool, "and four", Checks.eight("/789"), 1);
        pool.read(0);
        holds("19: one behind the other", pool, 0, "-1234567/789");
        for (int i = 0; i < 49; i++) {
            types(pool, "zeros", Checks.eight("00000000"), 1);
        }
        types(pool, "four more, 396 in all", Checks.eight("0000"), 1);
        types(pool, "401 in all", Checks.eight("55555"), 0);
        types(pool, "400 in all", Checks.eight("0042"), 1);
        types(pool, "nothing more at 400", 0, 1);
        types(pool, "401", '7', 0);
        checks.due("19: all 400", () -> pool.read(0), 2);
        holds("19: all 400", pool, 0, "42");
        types(pool, "again after read()", '7', 1);
    }

    private void reads(String text, String due) {
        FractionPool pool = new FractionPool(1024);
        Checks.typeAll(pool, text);
        checks.same("20: read " + text, Checks.answer(() -> pool.read(3)).startsWith("throws") ? "none" : Checks.text(pool, 3), due);
    }

    private void promise20Read() {
        String[][] cases = {{"0", "0"}, {"-0", "0"}, {"007", "7"}, {"-12.50", "-25/2"}, {"007/021", "1/3"}, {"-4/6", "-2/3"}, {"0.000", "0"},
            {"-0/5", "0"}, {"0/5", "0"}, {"0.1", "1/10"}, {"-0.125", "-1/8"}, {"10/1", "10"}, {"1/01", "1"}, {"3.0", "3"},
            {"123456789012345678901234567890", "123456789012345678901234567890"},
            {"1.00000000000000000000000000000", "1"}, {"", "none"}, {"-", "none"}, {".5", "none"}, {"5.", "none"}, {"1/", "none"},
            {"1/0", "none"}, {"1/000", "none"}, {"/2", "none"}, {"1.5/2", "none"}, {"1/2.5", "none"}, {"1/-2", "none"}, {"+1", "none"},
            {"1e5", "none"}, {"--1", "none"}, {"-/2", "none"}, {"1,5", "none"}, {"1/2/3", "none"}};
        for (String[] c : cases) {
            reads(c[0], c[1]);
        }
        FractionPool pool = new FractionPool(1024);
        Checks.typeAll(pool, "1/3");
        checks.due("20: how many limbs", () -> pool.read(0), 2);
        String long400 = "9".repeat(199) + "/" + "7".repeat(200);
        Checks.typeAll(pool, long400);
        checks.due("20: a text of 400", () -> pool.read(0), 21 + 21);
    }

    private void promise20ReadUsesUp() {
        FractionPool pool = pool(64, "1/2");
        for (int r : NO_REGISTERS) {
            Checks.typeAll(pool, "1/3");
            checks.thrown("20: read to " + r, () -> pool.read(r), INDEX);
            checks.due("20: fault() of a number for no register", pool::fault, -1);
            checks.thrown("20: used up by " + r, () -> pool.read(0), ARGUMENT);
            checks.thrown("20: no register before no number " + r, () -> pool.read(r), INDEX);
            checks.due("20: fault() of no text", pool::fault, 0);
        }
        Checks.typeAll(pool, "7".repeat(400));
        checks.thrown("20: no room", () -> pool.read(0), ROOM);
        checks.due("20: a number all the same", pool::fault, -1);
        checks.thrown("20: used up by no room", () -> pool.read(0), ARGUMENT);
        Checks.typeAll(pool, "x");
        checks.thrown("20: no number", () -> pool.read(0), ARGUMENT);
        Checks.typeAll(pool, "5");
        checks.due("20: used up by no number", () -> pool.read(1), 2);
        holds("20: used up by no number", pool, 1, "5");
        holds("20: nothing else changed", pool, 0, "1/2");
    }

    private void promise21Fault() {
        Object[][] cases = {{"", 0}, {"-", 1}, {"x", 0}, {"-x", 1}, {"12x", 2}, {".5", 0}, {"-.5", 1}, {"5.", 2}, {"5.x", 2}, {"5.5x", 3},
            {"5.5.", 3}, {"5.5/", 3}, {"5/", 2}, {"5/x", 2}, {"5/-", 2}, {"5/2/", 3}, {"5/2.", 3}, {"5/2-", 3}, {"5/0", 1}, {"-55/000", 3},
            {"5/0x", 3}, {"5/00/", 4}, {"5/0001", -1}, {"5", -1}, {"--5", 1}, {"5-", 1}, {"/", 0}, {"-/5", 1}, {"0/0", 1}, {"12.5/3", 4},
            {"1/000", 1}, {"0.0", -1}, {"1/10", -1}, {":", 0}, {"1:", 1}};
        FractionPool pool = new FractionPool(1024);
        checks.due("21: before", pool::fault, -1);
        for (Object[] c : cases) {
            Checks.typeAll(pool, (String) c[0]);
            Checks.answer(() -> pool.read(0));
            checks.due("21: fault of " + c[0], pool::fault, (int) c[1]);
        }
        Checks.typeAll(pool, "5/");
        checks.thrown("21: read(32)", () -> pool.read(32), INDEX);
        checks.due("21: fault of a text for no register", pool::fault, 2);
        Checks.typeAll(pool, "x");
        checks.due("21: until the next one is read", pool::fault, 2);
        Checks.typeAll(pool, "1".repeat(399));
        checks.due("21: until then", pool::fault, 2);
        Checks.answer(() -> pool.read(0));
        Checks.typeAll(pool, "1".repeat(399) + ".");
        Checks.answer(() -> pool.read(0));
        checks.due("21: fault behind 400", pool::fault, 400);
    }

    private void promise22Print() {
        FractionPool pool = pool(1024, "-3/2", "0", "1000000000", "1000000000000000000", "1/1000000001", "-7", "999999999999999999");
        String[] due = {"-3/2", "0", "1000000000", "1000000000000000000", "1/1000000001", "-7", "999999999999999999"};
        for (int a = 0; a < due.length; a++) {
            int register = a;
            checks.due("22: print " + a, () -> pool.print(register), due[a].length());
            holds("22: print " + a, pool, a, due[a]);
        }
        for (int r : NO_REGISTERS) {
            checks.thrown("22: print " + r, () -> pool.print(r), INDEX);
        }
        pool.set(0, 10, 1);
        checks.due("22: 10 to the 1000", () -> pool.power(0, 0, 1000), 105);
        checks.due("22: its characters", () -> pool.print(0), 1001);
        checks.due("22: its first", () -> pool.character(0), '1');
        checks.due("22: its last", () -> pool.character(1000), '0');
        FractionPool longest = new FractionPool(1024);
        putPowerOfTwo(longest, 0, 32 * 992 - 1);
        checks.due("22: the longest number", longest::used, 1024);
        checks.due("22: its characters", () -> longest.print(0), 9556);
        longest.set(1, 0, 1);
        longest.power(0, 0, -1);
        checks.due("22: as a denominator", () -> longest.print(0), 9558);
        checks.due("22: the stroke", () -> longest.character(1), '/');
        checks.due("22: the last one", () -> longest.character(9557), '8');
    }

    private void promise23Character() {
        FractionPool pool = pool(1024, "-12/7", "5");
        checks.due("23: before print()", () -> pool.character(0), FractionPool.NONE);
        pool.print(0);
        int[][] due = {{0, '-'}, {1, '1'}, {2, '2'}, {3, '/'}, {4, '7'}, {5, -1}, {-1, -1}, {Integer.MAX_VALUE, -1}, {Integer.MIN_VALUE, -1}};
        for (int[] c : due) {
            checks.due("23: character " + c[0], () -> pool.character(c[0]), c[1]);
        }
        pool.set(0, 9, 1);
        checks.due("23: a register that changes changes no print", () -> pool.character(1), '1');
        checks.thrown("23: print of no register", () -> pool.print(32), INDEX);
        checks.due("23: that changes no print", () -> pool.character(4), '7');
        pool.print(1);
        checks.due("23: the next print", () -> pool.character(0), '5');
        checks.due("23: and no more of the one before", () -> pool.character(1), -1);
    }

    /** One limb less than the room, all of it, and one more, for each call that makes a fraction. */
    private void roomToTheLimb() {
        FractionPool pool = new FractionPool(100);
        putPowerOfTwo(pool, 0, 32 * 66);
        checks.due("room: used()", pool::used, 32 + 67);
        checks.due("room: the last limb", () -> pool.set(1, 1, 1), 2);
        checks.due("room: used()", pool::used, 100);
        checks.thrown("room: set", () -> pool.set(2, 1, 1), ROOM);
        checks.thrown("room: set, more for one that has some", () -> pool.set(1, 1, 1L << 32), ROOM);
        checks.thrown("room: copy", () -> pool.copy(2, 1), ROOM);
        checks.thrown("room: add", () -> pool.add(2, 1, 1), ROOM);
        checks.thrown("room: subtract", () -> pool.subtract(2, 3, 1), ROOM);
        checks.thrown("room: multiply", () -> pool.multiply(0, 0, 0), ROOM);
        checks.thrown("room: divide", () -> pool.divide(2, 1, 0), ROOM);
        checks.thrown("room: power", () -> pool.power(2, 3, 0), ROOM);
        checks.thrown("room: dot", () -> pool.dot(2, 1, 1, 1), ROOM);
        checks.thrown("room: floor", () -> pool.floor(2, 1), ROOM);
        checks.thrown("room: round", () -> pool.round(2, 1, 5), ROOM);
        checks.thrown("room: align", () -> pool.align(2, 1, 0), ROOM);
        Checks.typeAll(pool, "1");
        checks.thrown("room: read", () -> pool.read(2), ROOM);
        checks.due("room: as many limbs as before", () -> pool.add(1, 1, 1), 2);
        checks.due("room: a product that falls to 1", () -> pool.divide(0, 0, 0), 2);
        checks.due("room: used()", pool::used, 34);
        holds("room: register 1", pool, 1, "2");
        checks.due("room: register 2", () -> pool.sign(2), 0);
    }

    private void throwingChangesNothing() {
        FractionPool pool = pool(64, "-5/3", "0", "9");
        pool.print(0);
        Checks.typeAll(pool, "77");
        checks.thrown("nothing changes: set", () -> pool.set(0, 3, 0), ARITHMETIC);
        checks.thrown("nothing changes: divide", () -> pool.divide(0, 2, 1), ARITHMETIC);
        checks.thrown("nothing changes: power", () -> pool.power(0, 2, 1001), ARGUMENT);
        checks.thrown("nothing changes: power and room", () -> pool.power(0, 2, 1000), ROOM);
        checks.thrown("nothing changes: round", () -> pool.round(0, 2, 0), ARGUMENT);
        checks.thrown("nothing changes: align", () -> pool.align(0, 2, 4001), ARGUMENT);
        checks.thrown("nothing changes: dot", () -> pool.dot(0, 2, 2, -1), ARGUMENT);
        checks.thrown("nothing changes: swap", () -> pool.swap(0, 32), INDEX);
        checks.due("nothing changes: character", () -> pool.character(3), '3');
        checks.due("nothing changes: used()", pool::used, 34);
        checks.due("nothing changes: the text", () -> pool.read(3), 2);
        holds("nothing changes: the text", pool, 3, "77");
        holds("nothing changes: register 0", pool, 0, "-5/3");
        holds("nothing changes: register 2", pool, 2, "9");
    }
}
