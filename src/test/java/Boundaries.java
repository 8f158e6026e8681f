import java.lang.reflect.InvocationTargetException;
import java.lang.reflect.Method;
import java.util.Arrays;
import java.util.Comparator;

/**
 * What the tests of the boundary cases share. Each method of theirs whose name begins with the promise
 * (or with 'terms', or 'whatItIs') is the test of one sentence of the document.
 */
abstract class Boundaries {
    static final Class<IndexOutOfBoundsException> INDEX = IndexOutOfBoundsException.class;
    static final Class<IllegalArgumentException> ARGUMENT = IllegalArgumentException.class;
    static final Class<ArithmeticException> ARITHMETIC = ArithmeticException.class;
    static final Class<UnsupportedOperationException> ROOM = UnsupportedOperationException.class;
    /** Just outside, far outside, and what a byte, five bits or a sum that wraps would take for a register. */
    static final int[] NO_REGISTERS = {-1, 32, 33, -32, 64, 256, 65536, Integer.MIN_VALUE, Integer.MAX_VALUE};

    interface Setup {
        void on(FractionPool pool);
    }

    interface Use {
        long on(FractionPool pool);
    }

    final Checks checks = new Checks(getClass().getName());
    private String name = "";

    void runAll() throws IllegalAccessException {
        Method[] methods = getClass().getDeclaredMethods();
        Arrays.sort(methods, Comparator.comparing(Method::getName));
        int cases = 0;
        for (Method method : methods) {
            if (method.getParameterCount() == 0 && method.getName().matches("(promise\\d|terms|whatItIs).*")) {
                name = method.getName();
                run(method);
                cases++;
            }
        }
        System.out.println(getClass().getName() + ": " + cases + " boundary cases");
        checks.finish();
    }

    private void run(Method method) throws IllegalAccessException {
        try {
            method.invoke(this);
        } catch (InvocationTargetException e) {
            checks.same(name, "throws." + e.getCause(), "no exception");
        }
    }

    static Sight.Maker made(int room, Setup setup) {
        return () -> {
            FractionPool pool = new FractionPool(room);
            setup.on(pool);
            return pool;
        };
    }

    /** Registers 0, 1, .. with these numbers. */
    static Sight.Maker with(int room, String... numbers) {
        return made(room, pool -> putAll(pool, numbers));
    }

    static void putAll(FractionPool pool, String... numbers) {
        for (int r = 0; r < numbers.length; r++) {
            Checks.put(pool, r, numbers[r]);
        }
    }

    /** 2^bits in a register, by squaring and doubling, so that no other register needs a limb for it. */
    static void putPowerOfTwo(FractionPool pool, int r, int bits) {
        pool.set(r, 1, 1);
        for (int bit = 31 - Integer.numberOfLeadingZeros(bits); bit >= 0; bit--) {
            pool.multiply(r, r, r);
            if ((bits >>> bit & 1) != 0) {
                pool.add(r, r, r);
            }
        }
    }

    /** A whole number that needs so many limbs with its denominator, two at least. */
    static void fill(FractionPool pool, int r, int need) {
        putPowerOfTwo(pool, r, 32 * (need - 1) - 1);
    }

    void same(String what, String got, String due) {
        checks.same(name + ": " + what, got, due);
    }

    void answers(String what, Sight.Maker maker, Use use, long due) {
        FractionPool pool = maker.make();
        checks.due(name + ": " + what, () -> use.on(pool), due);
    }

    /** The call answers how many limbs the register needs, and the register has the number then. */
    void makes(String what, Sight.Maker maker, Use use, int r, int need, String number) {
        FractionPool pool = maker.make();
        checks.due(name + ": " + what, () -> use.on(pool), need);
        checks.same(name + ": what " + what + " made", Checks.text(pool, r), number);
        checks.due(name + ": the sign of what " + what + " made", () -> pool.sign(r), Checks.signOf(number));
    }

    /** The call throws what is due, and all that can be seen of the object is as it was. */
    void refuses(String what, Sight.Maker maker, Use use, Class<? extends RuntimeException> due) {
        FractionPool pool = maker.make();
        checks.thrown(name + ": " + what, () -> use.on(pool), due);
        checks.same(name + ": " + what + " changes nothing", Sight.all(after(maker, use)), Sight.all(maker));
    }

    /** read() throws what is due: registers and print are as they were, the text is used up, the fault told. */
    void refusesToRead(String what, Sight.Maker maker, int r, Class<? extends RuntimeException> due, int fault) {
        FractionPool pool = maker.make();
        checks.thrown(name + ": " + what, () -> pool.read(r), due);
        Sight.Maker after = after(maker, read -> read.read(r));
        checks.same(name + ": registers after " + what, Sight.registers(after), Sight.registers(maker));
        checks.same(name + ": print after " + what, Sight.printed(after), Sight.printed(maker));
        checks.same(name + ": fault after " + what, Sight.fault(after), ", fault " + fault);
        checks.same(name + ": text after " + what, Sight.text(after), Sight.text(() -> new FractionPool(64)));
    }

    static Sight.Maker after(Sight.Maker maker, Use use) {
        return () -> {
            FractionPool pool = maker.make();
            Checks.answer(() -> use.on(pool));
            return pool;
        };
    }
}
