import java.util.ArrayList;
import java.util.List;

/**
 * All that can be seen of an object. A look at the text uses it up, and an object is good for 512 calls:
 * so each handful of looks has an object of its own, made by the same calls.
 */
final class Sight {
    /** Makes the object anew, by at most some 150 calls. */
    interface Maker {
        FractionPool make();
    }

    private static final int HANDFUL = 250;

    private Sight() {
    }

    static String all(Maker maker) {
        return registers(maker) + printed(maker) + fault(maker) + text(maker);
    }

    /** The sign of each register, the lengths of its two numbers, and their limbs. */
    static String registers(Maker maker) {
        FractionPool pool = maker.make();
        StringBuilder seen = new StringBuilder("used " + pool.used());
        List<int[]> limbs = new ArrayList<>();
        for (int r = 0; r < 32; r++) {
            int top = pool.length(r, false);
            int bottom = pool.length(r, true);
            seen.append(", ").append(r).append(": ").append(pool.sign(r)).append(' ').append(top).append(' ').append(bottom);
            addLimbs(limbs, r, 0, top);
            addLimbs(limbs, r, 1, bottom);
        }
        seen.append(", limbs");
        for (int i = 0; i < limbs.size(); i++) {
            pool = i % HANDFUL == 0 ? maker.make() : pool;
            int[] at = limbs.get(i);
            seen.append(' ').append(Integer.toHexString(pool.limb(at[0], at[1] == 1, at[2])));
        }
        return seen.toString();
    }

    private static void addLimbs(List<int[]> limbs, int r, int denominator, int length) {
        for (int k = 0; 32 * k < length; k++) {
            limbs.add(new int[] {r, denominator, k});
        }
    }

    static String printed(Maker maker) {
        StringBuilder seen = new StringBuilder(", printed ");
        FractionPool pool = null;
        for (int i = 0; i < 20_000; i++) {
            pool = i % HANDFUL == 0 ? maker.make() : pool;
            int c = pool.character(i);
            if (c == FractionPool.NONE) {
                break;
            }
            seen.append((char) c);
        }
        return seen.toString();
    }

    static String fault(Maker maker) {
        return ", fault " + maker.make().fault();
    }

    /** The text that is typed and not yet read: the number that it is, its fault, and its length. */
    static String text(Maker maker) {
        Maker reading = () -> {
            FractionPool pool = emptied(maker);
            Checks.answer(() -> pool.read(0));
            pool.print(0);
            return pool;
        };
        FractionPool longer = emptied(maker);
        boolean typed = longer.type('x');
        Checks.answer(() -> longer.read(0));
        return ", text" + fault(reading) + printed(reading) + ", length " + (typed ? longer.fault() : 400);
    }

    /** All registers 0, so that there is room for the number that was typed. */
    private static FractionPool emptied(Maker maker) {
        FractionPool pool = maker.make();
        for (int r = 0; r < 32; r++) {
            pool.set(r, 0, 1);
        }
        return pool;
    }
}
