import java.math.BigInteger;
import java.util.regex.Pattern;

/** The document once more, in the words of java.math: what FractionPool's answers are held against. */
final class Model {
    private static final BigInteger TWO = BigInteger.TWO;
    private static final Pattern BEGINNING = Pattern.compile("-?|-?[0-9]+|-?[0-9]+\\.[0-9]*|-?[0-9]+/[0-9]*");
    private static final Pattern NUMBER = Pattern.compile("-?[0-9]+(\\.[0-9]+)?|-?[0-9]+/0*[1-9][0-9]*");

    final int room;
    final BigInteger[] tops = new BigInteger[32];
    final BigInteger[] bottoms = new BigInteger[32];
    private String text = "";
    private int fault = -1;
    String printed = "";

    Model(int room) {
        this.room = room < 64 || room > 1024 ? 1024 : room;
        java.util.Arrays.fill(tops, BigInteger.ZERO);
        java.util.Arrays.fill(bottoms, BigInteger.ONE);
    }

    static int limbs(BigInteger x) {
        return (x.abs().bitLength() + 31) / 32;
    }

    private static void registers(int... all) {
        for (int r : all) {
            if (r < 0 || r > 31) {
                throw new IndexOutOfBoundsException();
            }
        }
    }

    private int keep(int r, BigInteger top, BigInteger bottom) {
        BigInteger common = top.gcd(bottom);
        if (bottom.signum() < 0) {
            common = common.negate();
        }
        BigInteger n = top.divide(common);
        BigInteger d = bottom.divide(common);
        int need = limbs(n) + limbs(d);
        if (used() - limbs(tops[r]) - limbs(bottoms[r]) + need > room) {
            throw new UnsupportedOperationException();
        }
        tops[r] = n;
        bottoms[r] = d;
        return need;
    }

    int set(int r, long n, long d) {
        registers(r);
        if (d == 0) {
            throw new ArithmeticException();
        }
        return keep(r, BigInteger.valueOf(n), BigInteger.valueOf(d));
    }

    int copy(int to, int a) {
        registers(to, a);
        return keep(to, tops[a], bottoms[a]);
    }

    int swap(int a, int b) {
        registers(a, b);
        BigInteger top = tops[a];
        BigInteger bottom = bottoms[a];
        tops[a] = tops[b];
        bottoms[a] = bottoms[b];
        tops[b] = top;
        bottoms[b] = bottom;
        return limbs(tops[a]) + limbs(bottoms[a]);
    }

    int add(int to, int a, int b) {
        registers(to, a, b);
        return keep(to, tops[a].multiply(bottoms[b]).add(tops[b].multiply(bottoms[a])), bottoms[a].multiply(bottoms[b]));
    }

    int subtract(int to, int a, int b) {
        registers(to, a, b);
        return keep(to, tops[a].multiply(bottoms[b]).subtract(tops[b].multiply(bottoms[a])), bottoms[a].multiply(bottoms[b]));
    }

    int multiply(int to, int a, int b) {
        registers(to, a, b);
        return keep(to, tops[a].multiply(tops[b]), bottoms[a].multiply(bottoms[b]));
    }

    int divide(int to, int a, int b) {
        registers(to, a, b);
        if (tops[b].signum() == 0) {
            throw new ArithmeticException();
        }
        return keep(to, tops[a].multiply(bottoms[b]), bottoms[a].multiply(tops[b]));
    }

    int power(int to, int a, int n) {
        registers(to, a);
        if (n < -1000 || n > 1000) {
            throw new IllegalArgumentException();
        }
        if (tops[a].signum() == 0 && n < 0) {
            throw new ArithmeticException();
        }
        int times = Math.abs(n);
        // The power has more than (bits - 1) * times bits: what is far beyond the room is not made.
        long bits = Math.max(tops[a].abs().bitLength(), bottoms[a].bitLength());
        if ((bits - 1) * times > 40000) {
            throw new UnsupportedOperationException();
        }
        BigInteger top = tops[a].pow(times);
        BigInteger bottom = bottoms[a].pow(times);
        return n < 0 ? keep(to, bottom, top) : keep(to, top, bottom);
    }

    int dot(int to, int a, int b, int n) {
        registers(to, a, b);
        if (n < 0) {
            throw new IllegalArgumentException();
        }
        if ((long) a + n > 32 || (long) b + n > 32) {
            throw new IndexOutOfBoundsException();
        }
        BigInteger top = BigInteger.ZERO;
        BigInteger bottom = BigInteger.ONE;
        for (int k = 0; k < n; k++) {
            BigInteger d = bottoms[a + k].multiply(bottoms[b + k]);
            top = top.multiply(d).add(tops[a + k].multiply(tops[b + k]).multiply(bottom));
            bottom = bottom.multiply(d);
        }
        return keep(to, top, bottom);
    }

    int floor(int to, int a) {
        registers(to, a);
        BigInteger rest = tops[a].mod(bottoms[a]);
        return keep(to, tops[a].subtract(rest).divide(bottoms[a]), BigInteger.ONE);
    }

    int round(int to, int a, int p) {
        registers(to, a);
        if (p < 1 || p > 1024) {
            throw new IllegalArgumentException();
        }
        if (tops[a].signum() == 0) {
            return keep(to, BigInteger.ZERO, BigInteger.ONE);
        }
        // The least e with which the whole part of the size has no more than p bits.
        int e = tops[a].abs().bitLength() - bottoms[a].bitLength() - p - 2;
        while (wholePart(tops[a].abs(), bottoms[a], e).bitLength() > p) {
            e++;
        }
        return keepNearest(to, a, e, p == 1);
    }

    int align(int to, int a, int e) {
        registers(to, a);
        if (e < -4000 || e > 4000) {
            throw new IllegalArgumentException();
        }
        return keepNearest(to, a, e, false);
    }

    private static BigInteger wholePart(BigInteger top, BigInteger bottom, int e) {
        return e >= 0 ? top.divide(bottom.shiftLeft(e)) : top.shiftLeft(-e).divide(bottom);
    }

    private int keepNearest(int to, int a, int e, boolean greater) {
        BigInteger size = tops[a].abs();
        BigInteger m = wholePart(size, bottoms[a], e);
        BigInteger unitTop = e >= 0 ? BigInteger.ONE.shiftLeft(e) : BigInteger.ONE;
        BigInteger unitBottom = e >= 0 ? BigInteger.ONE : BigInteger.ONE.shiftLeft(-e);
        // size / bottom against (m + 1/2) * unit
        BigInteger middle = m.multiply(TWO).add(BigInteger.ONE).multiply(unitTop).multiply(bottoms[a]);
        int order = size.multiply(TWO).multiply(unitBottom).compareTo(middle);
        if (order > 0 || order == 0 && (greater || m.testBit(0))) {
            m = m.add(BigInteger.ONE);
        }
        BigInteger signed = tops[a].signum() < 0 ? m.negate() : m;
        return keep(to, signed.multiply(unitTop), unitBottom);
    }

    int compare(int a, int b) {
        registers(a, b);
        return tops[a].multiply(bottoms[b]).compareTo(tops[b].multiply(bottoms[a]));
    }

    int sign(int a) {
        registers(a);
        return tops[a].signum();
    }

    private BigInteger part(int a, boolean denominator) {
        return denominator ? bottoms[a] : tops[a].abs();
    }

    int length(int a, boolean denominator) {
        registers(a);
        return part(a, denominator).bitLength();
    }

    int limb(int a, boolean denominator, int k) {
        registers(a);
        if (k < 0) {
            throw new IndexOutOfBoundsException();
        }
        return k >= 2000 ? 0 : part(a, denominator).shiftRight(32 * k).intValue();
    }

    int used() {
        int used = 0;
        for (int r = 0; r < 32; r++) {
            used += limbs(tops[r]) + limbs(bottoms[r]);
        }
        return used;
    }

    boolean type(long eight) {
        StringBuilder more = new StringBuilder();
        for (long rest = eight; (rest & 255) != 0; rest >>>= 8) {
            long c = rest & 255;
            if (c < 33 || c > 126) {
                return false;
            }
            more.append((char) c);
        }
        if (text.length() + more.length() > 400) {
            return false;
        }
        text += more;
        return true;
    }

    static int faultOf(String text) {
        if (NUMBER.matcher(text).matches()) {
            return -1;
        }
        for (int i = 0; i < text.length(); i++) {
            if (!BEGINNING.matcher(text.substring(0, i + 1)).matches()) {
                return i;
            }
        }
        return text.matches("-?[0-9]+/0+") ? text.indexOf('/') : text.length();
    }

    int read(int r) {
        String read = text;
        text = "";
        fault = faultOf(read);
        registers(r);
        if (fault != -1) {
            throw new IllegalArgumentException();
        }
        int slash = read.indexOf('/');
        if (slash >= 0) {
            return keep(r, new BigInteger(read.substring(0, slash)), new BigInteger(read.substring(slash + 1)));
        }
        int point = read.indexOf('.');
        int places = point < 0 ? 0 : read.length() - point - 1;
        return keep(r, new BigInteger(read.replace(".", "")), BigInteger.TEN.pow(places));
    }

    int fault() {
        return fault;
    }

    int print(int a) {
        registers(a);
        printed = bottoms[a].equals(BigInteger.ONE) ? tops[a].toString() : tops[a] + "/" + bottoms[a];
        return printed.length();
    }

    int character(int i) {
        return i < 0 || i >= printed.length() ? -1 : printed.charAt(i);
    }
}
