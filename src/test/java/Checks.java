/** Counts the calls whose answer is the one that is due, and prints those whose answer is not. */
final class Checks {
    /** A call on the object that is tested; a boolean counts 1 or 0. */
    interface Call {
        long run();
    }

    private final String name;
    private int passed;
    private int failed;

    Checks(String name) {
        this.name = name;
    }

    /** What the call answers, or throws. and the exception's name. */
    static String answer(Call call) {
        try {
            return Long.toString(call.run());
        } catch (RuntimeException e) {
            return "throws." + e.getClass().getSimpleName();
        }
    }

    void same(String what, String got, String due) {
        if (got.equals(due)) {
            passed++;
            return;
        }
        failed++;
        if (failed <= 40) {
            System.out.println(name + ": " + what + " answered " + got + ", due is " + due);
        }
    }

    void due(String what, Call call, long due) {
        same(what, answer(call), Long.toString(due));
    }

    void thrown(String what, Call call, Class<? extends RuntimeException> due) {
        same(what, answer(call), "throws." + due.getSimpleName());
    }

    boolean anyFailed() {
        return failed > 0;
    }

    void finish() {
        System.out.println(name + ": " + passed + " passed, " + failed + " failed");
        if (failed > 0) {
            System.exit(1);
        }
    }

    static long eight(String text) {
        long eight = 0;
        for (int i = 0; i < text.length() && i < 8; i++) {
            eight |= (long) (text.charAt(i) & 255) << 8 * i;
        }
        return eight;
    }

    static boolean typeAll(FractionPool pool, String text) {
        boolean all = true;
        for (int i = 0; i < text.length(); i += 8) {
            all &= pool.type(eight(text.substring(i, Math.min(i + 8, text.length()))));
        }
        return all;
    }

    /** What print() leaves, read with character(). */
    static String text(FractionPool pool, int r) {
        int count = pool.print(r);
        StringBuilder text = new StringBuilder();
        for (int i = 0; i < count; i++) {
            text.append((char) pool.character(i));
        }
        return text.toString();
    }

    /** The sign of a number that is printed so. */
    static int signOf(String printed) {
        return printed.equals("0") ? 0 : printed.startsWith("-") ? -1 : 1;
    }

    static void put(FractionPool pool, int r, String text) {
        typeAll(pool, text);
        pool.read(r);
    }
}
