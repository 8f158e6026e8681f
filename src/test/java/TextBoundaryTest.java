/** The boundary cases of the text: promises 19 to 23, and what 'Terms' says of texts, numbers and faults. */
public final class TextBoundaryTest extends Boundaries {
    private static final int NONE = FractionPool.NONE;

    public static void main(String[] args) throws IllegalAccessException {
        new TextBoundaryTest().runAll();
    }

    private static Sight.Maker typed(int room, String text) {
        return made(room, pool -> Checks.typeAll(pool, text));
    }

    private static String zeros(int count) {
        return "0".repeat(count);
    }

    private static String figures(int count) {
        return "7".repeat(count);
    }

    private void typing(String what, Sight.Maker maker, long eight, boolean due) {
        answers(what, maker, pool -> pool.type(eight) ? 1 : 0, due ? 1 : 0);
        if (!due) {
            same(what + " types nothing", Sight.all(after(maker, pool -> pool.type(eight) ? 1 : 0)), Sight.all(maker));
        }
    }

    /** Each byte in each place of the eight, with 1s in the other places, behind a 5 that is typed before. */
    void promise19EachByteInEachPlace() {
        for (int place = 0; place < 8; place++) {
            for (int c = 0; c < 256; c++) {
                long eight = Checks.eight("11111111") & ~(255L << 8 * place) | (long) c << 8 * place;
                String before = "1".repeat(place);
                String text = c == 0 ? before : c < 33 || c > 126 ? null : before + (char) c + "1".repeat(7 - place);
                FractionPool pool = typed(64, "5").make();
                String what = "byte " + c + " in place " + place;
                same(what, Checks.answer(() -> pool.type(eight) ? 1 : 0), text == null ? "0" : "1");
                pool.type('x');
                Checks.answer(() -> pool.read(0));
                same("the text with " + what, Checks.answer(pool::fault), Integer.toString(Model.faultOf("5" + (text == null ? "" : text) + "x")));
            }
        }
    }

    void promise19UpToTheFirstByte0() {
        String text = "12";
        Sight.Maker maker = typed(64, text);
        typing("nothing", maker, 0, true);
        typing("bytes behind a 0 in the lowest place", maker, 0x3131313131313100L, true);
        same("they are not typed", Sight.all(after(maker, pool -> pool.type(0x3131313131313100L) ? 1 : 0)), Sight.all(maker));
        same("nothing is typed", Sight.all(after(maker, pool -> pool.type(0) ? 1 : 0)), Sight.all(maker));
        typing("no characters behind a 0", maker, 0xFF_80_7F_20_1F_01_00_33L, true);
        makes("what that typed", after(maker, pool -> pool.type(0xFF_80_7F_20_1F_01_00_33L) ? 1 : 0), pool -> pool.read(0), 0, 2, "123");
        typing("a 0 behind seven", maker, 0x00_37_36_35_34_33_32_31L, true);
        makes("what that typed", after(maker, pool -> pool.type(0x00_37_36_35_34_33_32_31L) ? 1 : 0), pool -> pool.read(0), 0, 2, "121234567");
        typing("eight without a 0", maker, 0x38_37_36_35_34_33_32_31L, true);
        makes("what that typed", after(maker, pool -> pool.type(0x38_37_36_35_34_33_32_31L) ? 1 : 0), pool -> pool.read(0), 0, 2, "1212345678");
        typing("eight bytes 255", maker, -1L, false);
        typing("the lowest byte 128", maker, 0x80, false);
        typing("the highest byte 128", maker, Long.MIN_VALUE | Checks.eight("1234567"), false);
        typing("a space as the last of eight", maker, 0x20_37_36_35_34_33_32_31L, false);
    }

    void promise19AtMost400Characters() {
        for (int have = 391; have <= 400; have++) {
            Sight.Maker maker = typed(64, zeros(have));
            for (int more = 0; more <= 8; more++) {
                long eight = Checks.eight("55555555".substring(0, more));
                typing(more + " more than " + have, maker, eight, have + more <= 400);
            }
        }
        makes("all 400 count", typed(64, zeros(398) + "42"), pool -> pool.read(0), 0, 2, "42");
        makes("the 400th counts", typed(64, zeros(392) + "00000009"), pool -> pool.read(0), 0, 2, "9");
    }

    void promise19At400OnlyWhatIsBeforeTheFirst0Counts() {
        typing("one, and more behind a 0, at 399", typed(64, zeros(399)), 0x3131313131310031L, true);
        typing("two, and more behind a 0, at 399", typed(64, zeros(399)), 0x3131313131003131L, false);
        typing("nothing, and more behind a 0, at 400", typed(64, zeros(400)), 0x3131313131313100L, true);
        typing("no character at 400", typed(64, zeros(400)), ' ', false);
        typing("no character at 399", typed(64, zeros(399)), 127, false);
        typing("a character, and then none, at 399", typed(64, zeros(399)), 0x2031, false);
        typing("nothing and no characters behind it at 400", typed(64, zeros(400)), 0x2000, true);
    }

    /** read() uses the text up, whatever it throws, and there is place for 400 again. */
    void promise19Again400BehindARead() {
        Object[][] reads = {{zeros(400), 0}, {"x" + zeros(399), 0}, {zeros(400), 32}, {"x" + zeros(399), -1}, {figures(400), 1}};
        for (Object[] c : reads) {
            Sight.Maker maker = made(64, pool -> {
                Checks.typeAll(pool, (String) c[0]);
                Checks.answer(() -> pool.read((int) c[1]));
                Checks.typeAll(pool, zeros(392));
            });
            String text = ((String) c[0]).substring(0, 2);
            typing("8 more than 392 behind a read of " + text + ".. to " + c[1], maker, Checks.eight("00000008"), true);
            typing("401 behind a read of " + text + ".. to " + c[1], after(maker, pool -> pool.type(Checks.eight("00000008")) ? 1 : 0), '1', false);
        }
    }

    private void reading(String text, int fault) {
        FractionPool pool = typed(1024, text).make();
        String due = fault == NONE ? "no exception" : "throws.IllegalArgumentException";
        String got = Checks.answer(() -> pool.read(3));
        same("read of " + text, got.startsWith("throws") ? got : "no exception", due);
        same("the fault of " + text, Checks.answer(pool::fault), Integer.toString(fault));
    }

    /** Each character behind each way that a number may begin. */
    void promise21EachCharacterBehindEachBeginning() {
        String[][] beginnings = {{"", "-"}, {"-", ""}, {"1", "./"}, {"-20", "./"}, {"1.", ""}, {"1.0", ""}, {"-0.5", ""}, {"1/", ""}, {"1/2", ""},
            {"1/0", ""}, {"-1/00", ""}, {"1/10", ""}, {"00", "./"}};
        for (String[] beginning : beginnings) {
            for (char c = 33; c <= 126; c++) {
                String text = beginning[0] + c;
                reading(text, faultBehind(beginning[0], beginning[1], c));
            }
        }
    }

    private static int faultBehind(String beginning, String marks, char c) {
        if (c >= '0' && c <= '9') {
            int slash = beginning.indexOf('/');
            boolean allZero = slash >= 0 && beginning.substring(slash + 1).replace("0", "").isEmpty() && c == '0';
            return allZero ? slash : NONE;
        }
        return marks.indexOf(c) >= 0 ? beginning.length() + 1 : beginning.length();
    }

    void promise20ANumberAndWhatItIs() {
        String[][] cases = {{"0", "0"}, {"9", "9"}, {"-1", "-1"}, {"-0", "0"}, {"0000", "0"}, {"0010", "10"}, {"1.0", "1"}, {"0.5", "1/2"}, {"-0.5", "-1/2"},
            {"00.50", "1/2"}, {"1.25", "5/4"}, {"-12.125", "-97/8"}, {"1/1", "1"}, {"0/1", "0"}, {"-0/1", "0"}, {"-3/6", "-1/2"}, {"10/05", "2"},
            {"7/0007", "1"}, {"4294967295", "4294967295"}, {"4294967296", "4294967296"}, {"18446744073709551615", "18446744073709551615"},
            {"-18446744073709551616/4294967296", "-4294967296"}, {"0.0000000001", "1/10000000000"}, {"99.99", "9999/100"}};
        for (String[] c : cases) {
            FractionPool pool = typed(64, c[0]).make();
            pool.read(31);
            same("read of " + c[0], Checks.text(pool, 31), c[1]);
            same("the fault of " + c[0], Checks.answer(pool::fault), "-1");
        }
    }

    void promise21TheFirstWrongCharacter() {
        Object[][] cases = {{"x", 0}, {"/1", 0}, {".1", 0}, {"+1", 0}, {"-x", 1}, {"--1", 1}, {"-.1", 1}, {"-/1", 1}, {"1-", 1}, {"1x", 1}, {"1.x", 2},
            {"1..1", 2}, {"1./1", 2}, {"1.-1", 2}, {"1.1.", 3}, {"1.1/2", 3}, {"1/x", 2}, {"1//2", 2}, {"1/-2", 2}, {"1/.2", 2}, {"1/2/", 3}, {"1/2.", 3},
            {"1/2.5", 3}, {"1/2-", 3}, {"1/0x", 3}, {"1/00/", 4}, {"1/00.", 4}, {"x/0", 0}, {"1x/0", 1}, {"1,5", 1}, {"1e5", 1}, {"xy", 0}, {"1xy", 1}};
        for (Object[] c : cases) {
            reading((String) c[0], (int) c[1]);
        }
        reading(figures(399) + "x", 399);
        reading(figures(398) + "x7", 398);
        reading("x" + figures(399), 0);
        reading("1/" + zeros(397) + "x", 399);
        reading("0." + zeros(397) + ".", 399);
    }

    void promise21SomethingIsMissing() {
        Object[][] cases = {{"", 0}, {"-", 1}, {"1.", 2}, {"-1.", 3}, {"1/", 2}, {"-1/", 3}, {"0/", 2}, {"0.", 2}};
        for (Object[] c : cases) {
            reading((String) c[0], (int) c[1]);
        }
        reading(figures(398) + ".", 399);
        reading(figures(398) + "/", 399);
        reading(figures(399) + ".", 400);
        reading(figures(399) + "/", 400);
        reading(figures(398) + ".7", NONE);
        reading(figures(398) + "/7", NONE);
    }

    void promise21AllFiguresBehindTheStrokeAre0() {
        Object[][] cases = {{"1/0", 1}, {"0/0", 1}, {"-0/0", 2}, {"-1/0", 2}, {"123/000", 3}, {"-123/000", 4}, {"1/01", NONE}, {"1/10", NONE}, {"1/001", NONE},
            {"1/00", 1}, {"0/1", NONE}};
        for (Object[] c : cases) {
            reading((String) c[0], (int) c[1]);
        }
        reading("1/" + zeros(398), 1);
        reading("1/" + zeros(397) + "1", NONE);
        reading("1/1" + zeros(397), NONE);
        reading(figures(398) + "/0", 398);
        reading("-" + figures(397) + "/0", 398);
        reading("1." + zeros(398), NONE);
    }

    /** No limb is left; register 0 has 5/3, and a text is typed. */
    private static Sight.Maker full(String text) {
        return made(64, pool -> {
            pool.set(0, 5, 3);
            fill(pool, 31, 32);
            pool.print(0);
            Checks.typeAll(pool, text);
        });
    }

    void promise20WhichExceptionComesFirst() {
        answers("used()", full(""), FractionPool::used, 64);
        refusesToRead("no register, a number", full("1/2"), 32, INDEX, NONE);
        refusesToRead("no register, no number", full("1/x"), 32, INDEX, 2);
        refusesToRead("no register, all figures 0", full("1/0"), -1, INDEX, 1);
        refusesToRead("no register, no text", full(""), 32, INDEX, 0);
        refusesToRead("no register, and no room", full(figures(400)), 32, INDEX, NONE);
        refusesToRead("no number", full("12x"), 0, ARGUMENT, 2);
        refusesToRead("no number where no limb is left", full("12."), 1, ARGUMENT, 3);
        refusesToRead("no number, long", full(figures(399) + "/"), 1, ARGUMENT, 400);
        refusesToRead("no text", full(""), 0, ARGUMENT, 0);
        refusesToRead("no room", full(figures(400)), 0, ROOM, NONE);
        refusesToRead("no room by a limb", full("1"), 1, ROOM, NONE);
    }

    void promise20EachReadUsesTheTextUp() {
        Object[][] cases = {{"7/2", 0}, {"7/2", 32}, {"7x", 0}, {"7x", 32}, {figures(400), 0}, {"", 0}};
        for (Object[] c : cases) {
            Sight.Maker read = after(full((String) c[0]), pool -> pool.read((int) c[1]));
            refusesToRead("once more behind " + c[0] + " to " + c[1], read, 0, ARGUMENT, 0);
            makes("another text behind " + c[0] + " to " + c[1], after(read, pool -> pool.type(Checks.eight("-4/6")) ? 1 : 0), pool -> pool.read(0), 0, 2,
                "-2/3");
        }
    }

    void promise21BeforeAndBehindReads() {
        answers("before", () -> new FractionPool(64), FractionPool::fault, NONE);
        answers("before, with a text that is none", typed(64, "x"), FractionPool::fault, NONE);
        Sight.Maker wrong = after(typed(64, "12x"), pool -> pool.read(0));
        answers("behind a text that is none", wrong, FractionPool::fault, 2);
        answers("asked again", after(wrong, FractionPool::fault), FractionPool::fault, 2);
        answers("while another one is typed", after(wrong, pool -> pool.type('x') ? 1 : 0), FractionPool::fault, 2);
        answers("when typing was refused", after(wrong, pool -> pool.type(' ') ? 1 : 0), FractionPool::fault, 2);
        answers("behind other calls", after(wrong, pool -> pool.set(0, 1, 2) + pool.print(0) + pool.power(1, 0, -1)), FractionPool::fault, 2);
        answers("behind other calls that throw", after(wrong, pool -> pool.divide(0, 0, 1)), FractionPool::fault, 2);
        answers("behind a number", after(after(wrong, pool -> pool.type('5') ? 1 : 0), pool -> pool.read(0)), FractionPool::fault, NONE);
        answers("behind a number for no register", after(after(wrong, pool -> pool.type('5') ? 1 : 0), pool -> pool.read(32)), FractionPool::fault, NONE);
        answers("behind no text for no register", after(wrong, pool -> pool.read(32)), FractionPool::fault, 0);
        answers("behind no text", after(wrong, pool -> pool.read(0)), FractionPool::fault, 0);
        answers("behind no text after a number", after(after(typed(64, "5"), pool -> pool.read(0)), pool -> pool.read(0)), FractionPool::fault, 0);
        Sight.Maker without = made(64, pool -> {
            Checks.answer(() -> pool.read(0));
            Checks.typeAll(pool, figures(400));
        });
        answers("behind a number without room", after(without, pool -> pool.read(0)), FractionPool::fault, NONE);
    }

    private void prints(String text) {
        FractionPool pool = new FractionPool(64);
        Checks.put(pool, 31, text);
        same("the characters of " + text, Checks.answer(() -> pool.print(31)), Integer.toString(text.length()));
        same("the print of " + text, Checks.text(pool, 31), text);
    }

    void promise22AroundPowersOfTen() {
        for (int figures = 1; figures <= 40; figures++) {
            String power = "1" + zeros(figures);
            String less = "9".repeat(figures);
            String more = "1" + zeros(figures - 1) + "1";
            for (String text : new String[] {power, less, more}) {
                prints(text);
                prints("-" + text);
                prints("1/" + text);
                prints("-1/" + text);
            }
            prints(power + "/" + more);
            prints("-" + power + "/" + less);
        }
    }

    void promise22TheDenominatorIs1() {
        for (String text : new String[] {"0", "1", "-1", "2", "1/2", "-1/2", "4294967295", "4294967296", "1/4294967296", "4294967297/4294967296",
            "-4294967295/4294967296", "18446744073709551616", "1/18446744073709551617"}) {
            prints(text);
        }
    }

    void promise22APrintChangesNothingElse() {
        Sight.Maker wrong = made(100, pool -> {
            Checks.typeAll(pool, "1x");
            Checks.answer(() -> pool.read(0));
            pool.set(0, -5, 3);
            Checks.typeAll(pool, "12/");
        });
        same("the registers", Sight.registers(after(wrong, pool -> pool.print(0))), Sight.registers(wrong));
        same("the text", Sight.text(after(wrong, pool -> pool.print(0))), Sight.text(wrong));
        same("the fault", Sight.fault(after(wrong, pool -> pool.print(0))), ", fault 1");
        same("what is printed", Sight.printed(after(wrong, pool -> pool.print(0))), ", printed -5/3");
    }

    void promise22NoRegisterLeavesThePrint() {
        Sight.Maker maker = made(64, pool -> {
            pool.set(0, -5, 3);
            pool.print(0);
        });
        for (int r : NO_REGISTERS) {
            refuses("print(" + r + ")", maker, pool -> pool.print(r), INDEX);
            same("what was printed before print(" + r + ")", Sight.printed(after(maker, pool -> pool.print(r))), ", printed -5/3");
        }
    }

    void promise23FromTheFirstToTheLast() {
        Sight.Maker maker = made(64, pool -> {
            pool.set(0, -52, 3);
            pool.print(0);
        });
        int[][] cases = {{0, '-'}, {1, '5'}, {2, '2'}, {3, '/'}, {4, '3'}, {5, NONE}, {6, NONE}, {-1, NONE}, {-2, NONE}, {-5, NONE}, {256, NONE},
            {65536, NONE}, {Integer.MAX_VALUE, NONE}, {Integer.MIN_VALUE, NONE}, {Integer.MIN_VALUE + 4, NONE}};
        for (int[] c : cases) {
            answers("character(" + c[0] + ")", maker, pool -> pool.character(c[0]), c[1]);
        }
    }

    void promise23BeforeAnyPrint() {
        for (int i : new int[] {0, 1, -1, 9999, Integer.MAX_VALUE, Integer.MIN_VALUE}) {
            answers("character(" + i + ")", () -> new FractionPool(64), pool -> pool.character(i), NONE);
            answers("character(" + i + ") behind a refused print", after(() -> new FractionPool(64), pool -> pool.print(32)), pool -> pool.character(i), NONE);
            answers("character(" + i + ") with a text", typed(64, "123"), pool -> pool.character(i), NONE);
        }
    }

    void promise23TheLatestPrintAlone() {
        Sight.Maker maker = made(64, pool -> {
            putAll(pool, "-123456789012345/7", "5");
            pool.print(0);
            pool.print(1);
        });
        answers("the shorter one", maker, pool -> pool.character(0), '5');
        answers("behind it", maker, pool -> pool.character(1), NONE);
        answers("far behind it", maker, pool -> pool.character(16), NONE);
        same("the longer one again", Sight.printed(after(maker, pool -> pool.print(0))), ", printed -123456789012345/7");
        same("0", Sight.printed(after(maker, pool -> pool.print(31))), ", printed 0");
        same("a register that changes", Sight.printed(after(maker, pool -> pool.set(1, 77, 1))), ", printed 5");
    }
}
