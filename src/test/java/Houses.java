import java.math.BigInteger;
import java.util.Arrays;

/** Houses that the tests are made on, and what they tell of themselves; a test extends it to use their names. */
abstract class Houses {
    /** Some of everything: FRAMES not yet PULLED DOWN, notes, PRINTS, SIZES. */
    static Threetwo full() {
        Threetwo x = pulled(0, 5, 7, 5, 9);
        x.frame(11);
        x.spoil(2, 8);
        x.spoil(2, 7);
        x.spoil(9, 1);
        x.change(4);
        print(x, 1, 5, 9);
        print(x, 2);
        x.rate(7);
        x.size(20);
        x.size(3);
        x.knock();
        return x;
    }

    /** As much of everything as the document has room for. */
    static Threetwo brimful() {
        Threetwo x = pulled(1, counted(24, 0, 4));
        for (int field = 0; field < 60; field += 7) {
            x.spoil(field, 99 - field);
        }
        x.change(20);
        print(x, counted(10, 0, 3));
        print(x, counted(10, 5, 3));
        print(x, counted(10, 9, 7));
        x.rate(1);
        for (int size : counted(20, 80, 1)) {
            x.size(size);
        }
        x.knock();
        return x;
    }

    /** So many numbers from the first on, each so much more than the one ahead. */
    static int[] counted(int many, int first, int step) {
        int[] row = new int[many];
        for (int nth = 0; nth < many; nth++) {
            row[nth] = first + nth * step;
        }
        return row;
    }

    static int[] same(int many, int number) {
        int[] row = new int[many];
        Arrays.fill(row, number);
        return row;
    }

    static int[] looks(int... looks) {
        return looks;
    }

    static Threetwo framed(int... looks) {
        Threetwo x = new Threetwo();
        for (int look : looks) {
            x.frame(look);
        }
        return x;
    }

    static Threetwo pulled(int phase, int... looks) {
        Threetwo x = framed(looks);
        x.pull(phase);
        return x;
    }

    /** FIELDS of just these LOOKS, none NOTED: each of its own FRAME of 2 or 3, of which all but one are cut out. */
    static Threetwo strip(int... looks) {
        Threetwo x = pulled(0, looks);
        for (int k = 0; k < looks.length; k++) {
            x.cut(k + 1, k % 2 == 0 ? 1 : 2);
        }
        return x;
    }

    static Threetwo change(Threetwo x, int change) {
        x.change(change);
        return x;
    }

    static int print(Threetwo x, int... looks) {
        int print = x.print();
        for (int look : looks) {
            x.look(print, look);
        }
        return print;
    }

    static Threetwo printed(int[]... prints) {
        Threetwo x = new Threetwo();
        for (int[] looks : prints) {
            print(x, looks);
        }
        return x;
    }

    static Threetwo sent(int rate, int... sizes) {
        Threetwo x = new Threetwo();
        x.rate(rate);
        for (int size : sizes) {
            x.size(size);
        }
        return x;
    }

    static String ofFields(Threetwo x, int what) {
        StringBuilder text = new StringBuilder();
        int many = x.house(1);
        for (int field = 0; field < many; field++) {
            text.append(x.ofField(field, what));
        }
        return text.toString();
    }

    static String path(Threetwo x) {
        return ofFields(x, 1);
    }

    static String framesOf(Threetwo x) {
        StringBuilder text = new StringBuilder();
        int many = x.house(5);
        for (int frame = 0; frame < many; frame++) {
            text.append(x.found(frame, 0)).append('@').append(x.found(frame, 1));
            text.append('x').append(x.found(frame, 2)).append(' ');
        }
        return text.toString();
    }

    /** All that can be asked, then what comes to light by other RATES, by healing and by pulling down. */
    static String portrait(Threetwo x) {
        StringBuilder text = new StringBuilder(x.digest() + " " + x.fields());
        for (int what = 0; what < 12; what++) {
            text.append(' ').append(x.house(what));
        }
        int prints = x.house(6);
        for (int print = 0; print < prints; print++) {
            for (int nth = 0; nth <= 10; nth++) {
                text.append(' ').append(x.ofPrint(print, nth));
            }
        }
        x.rate(1);
        for (int delay = 0; delay < 100; delay += 9) {
            text.append(" dry ").append(x.dry(delay));
        }
        for (int nth = x.house(2); nth >= 0; nth--) {
            text.append(" heal ").append(x.heal()).append(' ').append(x.digest());
        }
        for (int phase = 0; phase < 2; phase++) {
            text.append(" pull ").append(x.pull(phase)).append(' ').append(x.digest());
        }
        return text.toString();
    }

    /** The checksum from some 400 other calls, in whole numbers without a bound, cut to 64 bits at the end. */
    static long digestByCalls(Threetwo x) {
        BigInteger d = BigInteger.valueOf(8311);
        for (int what = 0; what <= 11; what++) {
            d = further(d, x.house(what));
        }
        int fields = x.house(1);
        for (int field = 0; field < fields; field++) {
            for (int what = 0; what <= 3; what++) {
                d = further(d, x.ofField(field, what));
            }
        }
        int frames = x.house(5);
        for (int frame = 0; frame < frames; frame++) {
            for (int what = 0; what <= 2; what++) {
                d = further(d, x.found(frame, what));
            }
        }
        int prints = x.house(6);
        for (int one = 0; one < prints; one++) {
            for (int other = 0; other < prints; other++) {
                d = further(further(d, x.apart(one, other)), x.laying(one, other).length());
            }
        }
        d = further(d, x.label(1800 + 977 * fields));
        d = further(d, x.dry(3));
        d = further(d, x.fields().length());
        return further(d, x.isSound() ? 1 : 0).longValue();
    }

    private static BigInteger further(BigInteger d, long v) {
        return d.multiply(BigInteger.valueOf(31)).add(BigInteger.valueOf(v));
    }
}
