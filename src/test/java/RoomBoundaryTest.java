/**
 * The boundary cases of the room: which one a constructor's number gives; the last limb of it, and one more,
 * for each call that makes a fraction; and what is in between, which is not counted.
 */
public final class RoomBoundaryTest extends Boundaries {
    private static final long LIMB = 1L << 32;

    public static void main(String[] args) throws IllegalAccessException {
        new RoomBoundaryTest().runAll();
    }

    void promise1RoomFrom64To1024() {
        for (int room : new int[] {64, 65, 66, 127, 128, 512, 1000, 1022, 1023, 1024}) {
            hasRoom(room, room);
        }
    }

    void promise1AnyOtherRoomIs1024() {
        int[] rooms = {63, 62, 32, 31, 1, 0, -1, -64, -100, -1024, 1025, 1026, 2048, 65536 + 64, Integer.MAX_VALUE, Integer.MIN_VALUE,
            Integer.MIN_VALUE + 100};
        for (int room : rooms) {
            hasRoom(room, 1024);
        }
    }

    private void hasRoom(int number, int room) {
        answers("one limb is left of " + number, made(number, pool -> fill(pool, 0, room - 32)), FractionPool::used, room - 1);
        answers("the last limb of " + number, made(number, pool -> fill(pool, 0, room - 32)), pool -> pool.set(1, 1, 1), 2);
        answers("no limb is left of " + number, made(number, pool -> fill(pool, 0, room - 31)), FractionPool::used, room);
        refuses("one more limb than " + number, made(number, pool -> fill(pool, 0, room - 31)), pool -> pool.set(1, 1, 1), ROOM);
        refuses("two more than " + number, made(number, pool -> fill(pool, 0, room - 32)), pool -> pool.set(1, LIMB, 1), ROOM);
    }

    /** The call in rooms one limb smaller than what all registers need after it, just as large, and one larger. */
    private void toTheLimb(String what, Setup setup, Use use, int need) {
        Setup filled = pool -> {
            fill(pool, 30, 40);
            setup.on(pool);
        };
        int after = needOfAll(after(made(1024, filled), use));
        refuses(what + " without the last limb", made(after - 1, filled), use, ROOM);
        for (int room = after; room <= after + 1; room++) {
            answers(what + " with a room of " + room, made(room, filled), use, need);
            answers("the limbs after " + what + " with " + room, after(made(room, filled), use), FractionPool::used, after);
            same("what " + what + " made with " + room, Sight.registers(after(made(room, filled), use)), Sight.registers(after(made(1024, filled), use)));
        }
    }

    /** Counted from the lengths, not by used(). */
    private static int needOfAll(Sight.Maker maker) {
        FractionPool pool = maker.make();
        int need = 0;
        for (int r = 0; r < 32; r++) {
            need += (pool.length(r, false) + 31) / 32 + (pool.length(r, true) + 31) / 32;
        }
        return need;
    }

    private static Setup numbers(String... numbers) {
        return pool -> putAll(pool, numbers);
    }

    void promise2RoomToTheLimb() {
        toTheLimb("set, a numerator", numbers(), pool -> pool.set(5, 1, 1), 2);
        toTheLimb("set, a numerator of two limbs", numbers(), pool -> pool.set(5, LIMB, 1), 3);
        toTheLimb("set, a longer numerator", numbers("1", "5"), pool -> pool.set(1, -LIMB, 1), 3);
        toTheLimb("set, a longer denominator", numbers("1", "5"), pool -> pool.set(1, 3, LIMB), 3);
        toTheLimb("set, the longest", numbers("1", "5"), pool -> pool.set(1, Long.MIN_VALUE, Long.MAX_VALUE), 4);
    }

    void promise3RoomToTheLimb() {
        toTheLimb("copy of a whole number", numbers("1"), pool -> pool.copy(31, 0), 2);
        toTheLimb("copy of long ones", numbers("18446744073709551616/79228162514264337593543950337"), pool -> pool.copy(31, 0), 7);
        toTheLimb("copy onto a shorter one", numbers("18446744073709551616", "4294967296"), pool -> pool.copy(1, 0), 4);
    }

    void promise4SwapWithoutALimbLeft() {
        Sight.Maker full = made(64, pool -> {
            pool.set(1, -1, 3);
            fill(pool, 0, 32);
        });
        answers("used()", full, FractionPool::used, 64);
        answers("swap(0, 1)", full, pool -> pool.swap(0, 1), 2);
        answers("swap(1, 0)", full, pool -> pool.swap(1, 0), 32);
        answers("swap(0, 0)", full, pool -> pool.swap(0, 0), 32);
        answers("used() behind it", after(full, pool -> pool.swap(0, 31)), FractionPool::used, 64);
        answers("what went to the last", after(full, pool -> pool.swap(0, 31)), pool -> pool.length(31, false), 32 * 31);
    }

    void promise5RoomToTheLimb() {
        toTheLimb("add with a carry", numbers("4294967295", "1"), pool -> pool.add(2, 0, 1), 3);
        toTheLimb("add with a carry, onto itself", numbers("4294967295", "1"), pool -> pool.add(0, 0, 1), 3);
        toTheLimb("add, a longer denominator", numbers("1/65536", "1/65537"), pool -> pool.add(1, 0, 1), 3);
        toTheLimb("add below 0", numbers("-4294967295", "-1"), pool -> pool.add(1, 0, 1), 3);
    }

    void promise6RoomToTheLimb() {
        toTheLimb("subtract with a carry", numbers("4294967295", "-1"), pool -> pool.subtract(2, 0, 1), 3);
        toTheLimb("subtract with a carry, onto itself", numbers("-4294967295", "1"), pool -> pool.subtract(0, 0, 1), 3);
        toTheLimb("subtract, a longer denominator", numbers("1/65536", "1/65537"), pool -> pool.subtract(1, 0, 1), 3);
    }

    void promise7RoomToTheLimb() {
        toTheLimb("multiply to 2^32", numbers("65536", "-65536"), pool -> pool.multiply(2, 0, 1), 3);
        toTheLimb("multiply to 2^32, onto itself", numbers("65536"), pool -> pool.multiply(0, 0, 0), 3);
        toTheLimb("multiply to 1 over 2^32", numbers("1/65536"), pool -> pool.multiply(0, 0, 0), 3);
        toTheLimb("multiply, both longer", numbers("65537/65536"), pool -> pool.multiply(0, 0, 0), 4);
    }

    void promise8RoomToTheLimb() {
        toTheLimb("divide to 2^32", numbers("65536", "-1/65536"), pool -> pool.divide(2, 0, 1), 3);
        toTheLimb("divide to 1 over 2^32", numbers("65536", "1/65536"), pool -> pool.divide(0, 1, 0), 3);
        toTheLimb("divide, both longer", numbers("65537/65536", "65536/65537"), pool -> pool.divide(1, 0, 1), 4);
    }

    void promise9RoomToTheLimb() {
        toTheLimb("power to 2^32", numbers("2"), pool -> pool.power(2, 0, 32), 3);
        toTheLimb("power to 2^32, onto itself", numbers("-2"), pool -> pool.power(0, 0, 32), 3);
        toTheLimb("power to 1 over 2^32", numbers("2"), pool -> pool.power(0, 0, -32), 3);
        toTheLimb("power to 2^992", numbers("2"), pool -> pool.power(0, 0, 992), 33);
        toTheLimb("power to 2^-1000", numbers("2"), pool -> pool.power(2, 0, -1000), 33);
        toTheLimb("power, both longer", numbers("-3/2"), pool -> pool.power(2, 0, 101), 6 + 4);
        toTheLimb("power of a long one to the 1", numbers("18446744073709551616"), pool -> pool.power(2, 0, 1), 4);
        toTheLimb("power of a long one to the -1", numbers("18446744073709551617/3"), pool -> pool.power(2, 0, -1), 4);
        toTheLimb("power of a long one to the 0", numbers("18446744073709551616"), pool -> pool.power(2, 0, 0), 2);
        toTheLimb("square of a long one", numbers("18446744073709551616"), pool -> pool.power(0, 0, 2), 6);
        toTheLimb("power of 0 to the 0", numbers(), pool -> pool.power(2, 0, 0), 2);
    }

    /** So long that nobody could make them: refused all the same. */
    void promise9PowersFarBeyondTheRoom() {
        Sight.Maker full = made(1024, pool -> fill(pool, 0, 993));
        refuses("the longest to the 1000", full, pool -> pool.power(0, 0, 1000), ROOM);
        refuses("the longest to the -1000", full, pool -> pool.power(0, 0, -1000), ROOM);
        refuses("the longest to the 2", full, pool -> pool.power(0, 0, 2), ROOM);
        makes("the longest to the 0", full, pool -> pool.power(0, 0, 0), 0, 2, "1");
        answers("the longest to the 1", full, pool -> pool.power(0, 0, 1), 993);
        answers("the longest to the -1", made(1024, pool -> fill(pool, 0, 992)), pool -> pool.power(0, 0, -1), 992);
        Sight.Maker large = with(1024, "4294967296", "1/4294967296", "-4294967295/4294967294");
        refuses("2^32 to the 1000", large, pool -> pool.power(0, 0, 1000), ROOM);
        refuses("2^-32 to the 1000", large, pool -> pool.power(1, 1, 1000), ROOM);
        refuses("both long to the -1000", large, pool -> pool.power(2, 2, -1000), ROOM);
        answers("2^32 to the 980", large, pool -> pool.power(0, 0, 980), 982);
    }

    void promise10RoomToTheLimb() {
        toTheLimb("dot of one product", numbers("65536", "65536"), pool -> pool.dot(2, 0, 1, 1), 3);
        toTheLimb("dot with a carry", numbers("65535", "65535", "131071", "0", "65537", "1", "1"), pool -> pool.dot(9, 0, 4, 3), 3);
        toTheLimb("dot onto one of them", numbers("65536", "1/65537"), pool -> pool.dot(0, 0, 0, 2), 3 + 2);
    }

    void promise11RoomToTheLimb() {
        toTheLimb("floor of -1/2", numbers("-1/2"), pool -> pool.floor(2, 0), 2);
        toTheLimb("floor of 2^32 and 1/2", numbers("8589934593/2"), pool -> pool.floor(2, 0), 3);
        toTheLimb("floor that is longer", numbers("-12884901887/3", "7"), pool -> pool.floor(1, 0), 3);
    }

    void promise12RoomToTheLimb() {
        toTheLimb("round up to 2^32", numbers("4294967295"), pool -> pool.round(0, 0, 31), 3);
        toTheLimb("round 1/3 to 32 bits", numbers("1/3"), pool -> pool.round(0, 0, 32), 3);
        toTheLimb("round 1/3 to 33 bits", numbers("1/3"), pool -> pool.round(0, 0, 33), 4);
        toTheLimb("round 1/3 to 1024 bits", numbers("1/3"), pool -> pool.round(0, 0, 1024), 65);
        toTheLimb("round of what needs no rounding", numbers("5"), pool -> pool.round(1, 0, 1024), 2);
    }

    void promise13RoomToTheLimb() {
        toTheLimb("align up to 2^32", numbers("4294967295"), pool -> pool.align(0, 0, 1), 3);
        toTheLimb("align to 2^32", numbers("4294967295"), pool -> pool.align(0, 0, 32), 3);
        toTheLimb("align 1/3 to 2^-32", numbers("1/3"), pool -> pool.align(0, 0, -32), 3);
        toTheLimb("align 1/3 to 2^-4000", numbers("1/3"), pool -> pool.align(0, 0, -4000), 125 + 126);
        toTheLimb("align more than 2^3999 to 2^4000", pool -> {
            putPowerOfTwo(pool, 0, 3999);
            pool.set(1, 1, 1);
            pool.add(0, 0, 1);
        }, pool -> pool.align(0, 0, 4000), 127);
    }

    void promise20RoomToTheLimb() {
        String[][] texts = {{"1", "2"}, {"4294967295", "2"}, {"4294967296", "3"}, {"-18446744073709551616", "4"}, {"1/4294967296", "3"},
            {"0.00000000023283064365386962890625", "3"}, {"1/3", "2"}};
        for (String[] text : texts) {
            Setup typed = pool -> {
                fill(pool, 30, 40);
                Checks.typeAll(pool, text[0]);
            };
            int after = 71 - 1 + Integer.parseInt(text[1]);
            refusesToRead("read of " + text[0] + " without the last limb", made(after - 1, typed), 0, ROOM, FractionPool.NONE);
            answers("read of " + text[0] + " with the last limb", made(after, typed), pool -> pool.read(0), Integer.parseInt(text[1]));
            answers("used() with " + text[0], after(made(after, typed), pool -> pool.read(0)), FractionPool::used, after);
            answers("read of " + text[0] + " with one more", made(after + 1, typed), pool -> pool.read(0), Integer.parseInt(text[1]));
        }
    }

    /** What a register had is not counted any more: in a full room, one that is as long, or shorter, has its place. */
    void termsAFullRoomHasPlaceForWhatIsNoLonger() {
        Sight.Maker full = made(64, pool -> {
            putAll(pool, "-1/3", "4294967296", "5");
            fill(pool, 31, 29);
            pool.type(Checks.eight("7/2"));
        });
        answers("used()", full, FractionPool::used, 64);
        makes("set, as long", full, pool -> pool.set(0, 9, 4), 0, 2, "9/4");
        makes("set, shorter", full, pool -> pool.set(1, 1, LIMB - 1), 1, 2, "1/4294967295");
        makes("copy, as long", full, pool -> pool.copy(0, 2), 0, 2, "5");
        makes("copy onto itself", full, pool -> pool.copy(1, 1), 1, 3, "4294967296");
        makes("add, as long", full, pool -> pool.add(0, 0, 0), 0, 2, "-2/3");
        makes("subtract, shorter", full, pool -> pool.subtract(1, 1, 2), 1, 2, "4294967291");
        makes("multiply, as long", full, pool -> pool.multiply(0, 0, 2), 0, 2, "-5/3");
        makes("divide, as long", full, pool -> pool.divide(1, 1, 0), 1, 3, "-12884901888");
        makes("power, as long", full, pool -> pool.power(0, 0, -3), 0, 2, "-27");
        makes("dot, as long", full, pool -> pool.dot(1, 0, 0, 1), 1, 2, "1/9");
        makes("floor, as long", full, pool -> pool.floor(0, 0), 0, 2, "-1");
        makes("round, as long", full, pool -> pool.round(0, 0, 30), 0, 2, "-715827883/2147483648");
        makes("align, shorter", full, pool -> pool.align(0, 0, 0), 0, 1, "0");
        makes("read, as long", full, pool -> pool.read(2), 2, 2, "7/2");
        makes("0 in place of the longest", full, pool -> pool.copy(31, 20), 31, 1, "0");
    }

    void promise2InBetweenIsNotCounted() {
        Sight.Maker one = made(64, pool -> fill(pool, 31, 32));
        makes("set of a fraction that is 1", one, pool -> pool.set(0, Long.MIN_VALUE, Long.MIN_VALUE), 0, 2, "1");
        makes("set of a fraction that is -3", one, pool -> pool.set(0, 3L << 40, -1L << 40), 0, 2, "-3");
    }

    /** Register 0 has 2^150 / 3^150, register 1 what is given, register 31 leaves no limb of the room. */
    private static Sight.Maker longOnes(Setup second) {
        return made(64, pool -> {
            pool.set(0, 2, 1);
            pool.power(0, 0, 150);
            pool.set(1, 3, 1);
            pool.power(1, 1, 150);
            pool.divide(0, 0, 1);
            second.on(pool);
            fill(pool, 31, 64 - pool.used() + 1);
        });
    }

    void promise5InBetweenIsNotCounted() {
        Sight.Maker maker = longOnes(pool -> pool.subtract(1, 2, 0));
        answers("used()", maker, FractionPool::used, 64);
        makes("add of opposites", maker, pool -> pool.add(2, 0, 1), 2, 1, "0");
        makes("add of opposites onto one", maker, pool -> pool.add(1, 0, 1), 1, 1, "0");
        answers("add of equals", maker, pool -> pool.add(0, 0, 0), 5 + 8);
    }

    void promise6InBetweenIsNotCounted() {
        Sight.Maker maker = longOnes(pool -> pool.copy(1, 0));
        makes("subtract of equals", maker, pool -> pool.subtract(2, 0, 1), 2, 1, "0");
        makes("subtract of equals onto one", maker, pool -> pool.subtract(0, 0, 1), 0, 1, "0");
    }

    void promise7InBetweenIsNotCounted() {
        Sight.Maker maker = longOnes(pool -> pool.power(1, 0, -1));
        makes("multiply with what turns it over", maker, pool -> pool.multiply(0, 0, 1), 0, 2, "1");
        makes("multiply of long ones with 0", maker, pool -> pool.multiply(2, 0, 3), 2, 1, "0");
    }

    void promise8InBetweenIsNotCounted() {
        Sight.Maker maker = longOnes(pool -> pool.add(1, 0, 0));
        makes("divide of a half by the whole", maker, pool -> pool.divide(0, 0, 1), 0, 2, "1/2");
        makes("divide of 0 by a long one", maker, pool -> pool.divide(2, 3, 0), 2, 1, "0");
        makes("divide by itself", maker, pool -> pool.divide(1, 1, 1), 1, 2, "1");
    }

    void promise10InBetweenIsNotCounted() {
        Sight.Maker maker = longOnes(pool -> pool.subtract(1, 2, 0));
        makes("dot of products that cancel", made(300, pool -> {
            pool.set(0, 2, 1);
            pool.power(0, 0, 900);
            pool.set(1, 3, 1);
            pool.power(1, 1, 500);
            pool.divide(0, 0, 1);
            pool.copy(1, 0);
            pool.copy(2, 0);
            pool.subtract(3, 20, 0);
            fill(pool, 31, 300 - pool.used() + 1);
        }), pool -> pool.dot(0, 0, 2, 2), 0, 1, "0");
        makes("dot of long ones with 0", maker, pool -> pool.dot(2, 0, 3, 2), 2, 1, "0");
        refuses("dot of a square that has no place", maker, pool -> pool.dot(0, 0, 0, 1), ROOM);
    }

    void promise11InBetweenIsNotCounted() {
        Sight.Maker maker = longOnes(pool -> pool.copy(1, 0));
        makes("floor of less than 1", maker, pool -> pool.floor(0, 0), 0, 1, "0");
        makes("floor of less than 1 to another", maker, pool -> pool.floor(2, 0), 2, 1, "0");
    }

    void promise12InBetweenIsNotCounted() {
        Sight.Maker maker = longOnes(pool -> pool.set(1, -5, 8));
        makes("round of what needs no rounding", maker, pool -> pool.round(1, 1, 1024), 1, 2, "-5/8");
        answers("round of long ones to few bits", maker, pool -> pool.round(0, 0, 1), 1 + 3);
        makes("round of 0", maker, pool -> pool.round(2, 3, 1024), 2, 1, "0");
    }

    void promise13InBetweenIsNotCounted() {
        Sight.Maker maker = longOnes(pool -> pool.set(1, -5, 8));
        makes("align of what is a multiple", maker, pool -> pool.align(1, 1, -4000), 1, 2, "-5/8");
        makes("align to far more", maker, pool -> pool.align(1, 1, 4000), 1, 1, "0");
        makes("align of long ones to 0", maker, pool -> pool.align(2, 0, 4000), 2, 1, "0");
        makes("align of 0", maker, pool -> pool.align(2, 3, -4000), 2, 1, "0");
    }

    void promise14CompareWithoutALimbLeft() {
        Sight.Maker maker = longOnes(pool -> pool.add(1, 0, 0));
        answers("compare(0, 1)", maker, pool -> pool.compare(0, 1), -1);
        answers("compare(1, 0)", maker, pool -> pool.compare(1, 0), 1);
        answers("compare(0, 0)", maker, pool -> pool.compare(0, 0), 0);
        answers("used() behind it", after(maker, pool -> pool.compare(0, 1)), FractionPool::used, 64);
    }

    void promise20InBetweenIsNotCounted() {
        String[][] texts = {{"0.5" + "0".repeat(397), "1/2"}, {"1" + "0".repeat(198) + "/1" + "0".repeat(199), "1/10"},
            {"0".repeat(399) + "7", "7"}, {"-" + "3".repeat(199) + "/" + "9".repeat(199), "-1/3"}, {"0." + "0".repeat(398), "0"}};
        for (String[] text : texts) {
            int need = text[1].equals("0") ? 1 : 2;
            makes("read of " + text[0], made(64, pool -> {
                pool.set(0, 1, 1);
                fill(pool, 31, 32);
                Checks.typeAll(pool, text[0]);
            }), pool -> pool.read(0), 0, need, text[1]);
        }
    }

    void promise18UsedFrom32ToTheRoom() {
        for (int room : new int[] {64, 100, 1024}) {
            answers("at first", () -> new FractionPool(room), FractionPool::used, 32);
            answers("with one limb left", made(room, pool -> fill(pool, 0, room - 32)), FractionPool::used, room - 1);
            answers("with none left", made(room, pool -> fill(pool, 0, room - 31)), FractionPool::used, room);
            answers("of a refused call", after(made(room, pool -> fill(pool, 0, room - 31)), pool -> pool.set(1, 1, 1)), FractionPool::used, room);
            answers("when all is 0 again", after(made(room, pool -> fill(pool, 0, room - 31)), pool -> pool.set(0, 0, 1)), FractionPool::used, 32);
        }
        answers("with 32 fractions of two limbs", made(64, pool -> {
            for (int r = 0; r < 32; r++) {
                pool.set(r, 1, r + 1);
            }
        }), FractionPool::used, 64);
    }

    void promise22PrintWithoutALimbLeft() {
        Sight.Maker longest = made(1024, pool -> fill(pool, 0, 993));
        answers("the longest number there is", longest, pool -> pool.print(0), 9556);
        answers("its last figure", after(longest, pool -> pool.print(0)), pool -> pool.character(9555), '8');
        answers("behind it", after(longest, pool -> pool.print(0)), pool -> pool.character(9556), FractionPool.NONE);
        answers("used() behind it", after(longest, pool -> pool.print(0)), FractionPool::used, 1024);
        Sight.Maker below = made(1024, pool -> {
            fill(pool, 0, 992);
            pool.subtract(0, 1, 0);
            pool.power(0, 0, -1);
        });
        answers("the longest denominator, below 0", below, pool -> pool.print(0), 3 + 9546);
        answers("its -", after(below, pool -> pool.print(0)), pool -> pool.character(0), '-');
        answers("its /", after(below, pool -> pool.print(0)), pool -> pool.character(2), '/');
        answers("its last figure", after(below, pool -> pool.print(0)), pool -> pool.character(9548), '8');
        answers("behind it", after(below, pool -> pool.print(0)), pool -> pool.character(9549), FractionPool.NONE);
    }
}
