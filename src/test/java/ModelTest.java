import java.util.Random;

/** Runs of calls on FractionPool and on the model side by side; the seeds are fixed, so each run is the same. */
public final class ModelTest {
    private static final int CALLS = 512;
    private static final int[] ROOMS = {64, 65, 100, 200, 300, 512, 777, 1000, 1023, 1024, 63, 1025, 0, -1};
    private static final long[] LONGS = {0, 1, -1, 2, 3, -4, 10, 0x7FFFFFFFL, 0x80000000L, 0xFFFFFFFFL, 0x100000000L,
        Long.MAX_VALUE, Long.MIN_VALUE, Long.MIN_VALUE + 1, 1L << 62, 0xFFFFFFFF00000000L, 0x7FFFFFFF80000000L};
    private static final int[] SHIFTS = {-4001, -4000, -3999, -64, -33, -32, -31, -1, 0, 1, 31, 32, 33, 64, 3999, 4000, 4001};
    private static final int[] BITS = {0, 1, 2, 3, 24, 31, 32, 33, 53, 63, 64, 65, 1023, 1024, 1025, -1};
    private static final String[] TEXTS = {"", "-", "0", "-0", "00", "1/", "1/0", "1/000", "-1/00", "1/0x", ".", "1.", "1.5",
        "-.5", "1.5/2", "1/2.5", "1/2/3", "1..5", "--1", "1-", "12a", "a12", "+1", "-0.0", "-0/7", "007/021", "0.125", "1/-2"};

    private final Checks checks;
    private final Random random;
    private final FractionPool pool;
    private final Model model;
    private final int registers;
    private final String run;
    private int calls;

    private ModelTest(Checks checks, int seed) {
        this.checks = checks;
        random = new Random(seed);
        int room = ROOMS[random.nextInt(ROOMS.length)];
        pool = new FractionPool(room);
        model = new Model(room);
        registers = random.nextBoolean() ? 32 : 2 + random.nextInt(6);
        run = "run " + seed + ", room " + room + ": ";
    }

    public static void main(String[] args) {
        int runs = args.length > 0 ? Integer.parseInt(args[0]) : 1500;
        int first = args.length > 1 ? Integer.parseInt(args[1]) : 0;
        Checks checks = new Checks("ModelTest");
        for (int seed = first; seed < first + runs && !checks.anyFailed(); seed++) {
            new ModelTest(checks, seed).run();
        }
        checks.finish();
    }

    private void run() {
        while (calls < CALLS - 40) {
            step(register(), register(), register());
        }
        check("used()", pool::used, model::used);
    }

    private void check(String call, Checks.Call got, Checks.Call due) {
        calls++;
        checks.same(run + "call " + calls + " " + call, Checks.answer(got), Checks.answer(due));
    }

    private int register() {
        return random.nextInt(60) == 0 ? (random.nextBoolean() ? -1 : 32) : random.nextInt(registers);
    }

    private long number() {
        switch (random.nextInt(4)) {
            case 0:
                return LONGS[random.nextInt(LONGS.length)];
            case 1:
                return random.nextInt(21) - 10;
            case 2:
                return random.nextLong();
            default:
                return random.nextLong() >> random.nextInt(64);
        }
    }

    private void step(int to, int a, int b) {
        switch (random.nextInt(18)) {
            case 0, 1, 2 -> set(to);
            case 3, 4 -> check("add " + to + " " + a + " " + b, () -> pool.add(to, a, b), () -> model.add(to, a, b));
            case 5, 6 -> check("subtract " + to + " " + a + " " + b, () -> pool.subtract(to, a, b), () -> model.subtract(to, a, b));
            case 7, 8, 9 -> check("multiply " + to + " " + a + " " + b, () -> pool.multiply(to, a, b), () -> model.multiply(to, a, b));
            case 10 -> check("divide " + to + " " + a + " " + b, () -> pool.divide(to, a, b), () -> model.divide(to, a, b));
            case 11 -> power(to, a);
            case 12 -> dot(to, a, b);
            case 13 -> round(to, a);
            case 14 -> align(to, a);
            case 15 -> text(to);
            case 16 -> small(to, a);
            default -> look(a, b);
        }
        check("sign " + to, () -> pool.sign(to), () -> model.sign(to));
        lookAt(to, random.nextBoolean());
    }

    private void set(int to) {
        long n = number();
        long d = number();
        check("set " + to + " " + n + " " + d, () -> pool.set(to, n, d), () -> model.set(to, n, d));
    }

    private void power(int to, int a) {
        int n = random.nextInt(4) == 0 ? random.nextInt(2005) - 1002 : random.nextInt(13) - 4;
        check("power " + to + " " + a + " " + n, () -> pool.power(to, a, n), () -> model.power(to, a, n));
    }

    private void dot(int to, int a, int b) {
        int n = random.nextInt(12) == 0 ? new int[] {-1, Integer.MAX_VALUE, Integer.MIN_VALUE}[random.nextInt(3)]
            : random.nextInt(registers == 32 ? 33 : registers + 1);
        int from = n > 6 && random.nextInt(4) > 0 ? Math.min(a, Math.max(0, 32 - n)) : a;
        int other = n > 6 && random.nextInt(4) > 0 ? Math.min(b, Math.max(0, 32 - n)) : b;
        check("dot " + to + " " + from + " " + other + " " + n, () -> pool.dot(to, from, other, n), () -> model.dot(to, from, other, n));
    }

    private void round(int to, int a) {
        int p = random.nextBoolean() ? BITS[random.nextInt(BITS.length)] : 1 + random.nextInt(200);
        check("round " + to + " " + a + " " + p, () -> pool.round(to, a, p), () -> model.round(to, a, p));
    }

    private void align(int to, int a) {
        int e = random.nextInt(3) == 0 ? SHIFTS[random.nextInt(SHIFTS.length)] : random.nextInt(140) - 70;
        check("align " + to + " " + a + " " + e, () -> pool.align(to, a, e), () -> model.align(to, a, e));
    }

    private void small(int to, int a) {
        switch (random.nextInt(3)) {
            case 0 -> check("copy " + to + " " + a, () -> pool.copy(to, a), () -> model.copy(to, a));
            case 1 -> check("swap " + to + " " + a, () -> pool.swap(to, a), () -> model.swap(to, a));
            default -> check("floor " + to + " " + a, () -> pool.floor(to, a), () -> model.floor(to, a));
        }
    }

    private void look(int a, int b) {
        check("compare " + a + " " + b, () -> pool.compare(a, b), () -> model.compare(a, b));
        check("used()", pool::used, model::used);
        check("print " + a, () -> pool.print(a), () -> model.print(a));
        for (int i = 0; i < 3; i++) {
            int at = random.nextInt(model.printed.length() + 2) - 1;
            check("character " + at, () -> pool.character(at), () -> model.character(at));
        }
    }

    private void lookAt(int r, boolean denominator) {
        check("length " + r + " " + denominator, () -> pool.length(r, denominator), () -> model.length(r, denominator));
        int limbs = r < 0 || r > 31 ? 1 : Model.limbs(denominator ? model.bottoms[r] : model.tops[r]);
        for (int i = 0; i < 2; i++) {
            int k = random.nextInt(limbs + 2) - (random.nextInt(10) == 0 ? 1 : 0);
            check("limb " + r + " " + denominator + " " + k, () -> pool.limb(r, denominator, k), () -> model.limb(r, denominator, k));
        }
    }

    private void text(int to) {
        String text = random.nextBoolean() ? TEXTS[random.nextInt(TEXTS.length)] : figures();
        for (int i = 0; i < text.length(); i += 8) {
            long eight = Checks.eight(text.substring(i, Math.min(i + 8, text.length())));
            check("type " + eight, () -> pool.type(eight) ? 1 : 0, () -> model.type(eight) ? 1 : 0);
        }
        if (random.nextInt(8) == 0) {
            long eight = random.nextLong();
            check("type " + eight, () -> pool.type(eight) ? 1 : 0, () -> model.type(eight) ? 1 : 0);
        }
        check("fault()", pool::fault, model::fault);
        check("read " + to, () -> pool.read(to), () -> model.read(to));
        check("fault()", pool::fault, model::fault);
    }

    private String figures() {
        StringBuilder text = new StringBuilder(random.nextBoolean() ? "-" : "");
        int count = 1 + random.nextInt(random.nextInt(6) == 0 ? 120 : 12);
        int mark = random.nextInt(count + 1);
        for (int i = 0; i < count; i++) {
            text.append(i == mark ? "./x-".charAt(random.nextInt(20) / 9) : (char) ('0' + random.nextInt(10)));
        }
        return text.toString();
    }
}
