/** Promises 9 (write), 12 (digest), 18 (word) and 20 (exact). */
public final class WordTest {
    private static final long MIN = Long.MIN_VALUE;
    private static final long MAX = Long.MAX_VALUE;

    public static void main(String[] args) {
        words();
        refuses();
        digests();
        products();
        productsBeyond();
        Check.done();
    }

    private static void words() {
        RentSizes x = new RentSizes();
        x.make(0, 0, 10, 1);
        int[] words = {Integer.MIN_VALUE, -101, 0, Integer.MAX_VALUE};
        for (int k = 0; k < 4; k++) {
            Check.due("write(0, " + k + ", ..)", x.write(0, k, words[k]), 1);
        }
        for (int k = 0; k < 4; k++) {
            Check.due("word(0, " + k + ")", x.word(0, k), words[k]);
        }
        x.make(0, 0, 10, 1);
        Check.due("word of another one", x.word(1, 0), 0);
    }

    private static void refuses() {
        RentSizes x = new RentSizes();
        x.make(0, 0, 10, 1);
        for (int object : new int[] {-1, 1, 60, Integer.MAX_VALUE, Integer.MIN_VALUE}) {
            Check.refused(x, "write(" + object + ", 4, 1)", () -> x.write(object, 4, 1), RentSizes.UNKNOWN);
            Check.due("word(" + object + ", 4)", x.word(object, 4), RentSizes.UNKNOWN);
            Check.due("digest(" + object + ")", x.digest(object), RentSizes.NONE);
        }
        for (int turn = 0; turn < 2; turn++) {
            for (int k : new int[] {-1, 4, Integer.MAX_VALUE, Integer.MIN_VALUE}) {
                Check.refused(x, "write(0, " + k + ", 1)", () -> x.write(0, k, 1), RentSizes.OUTSIDE);
                Check.due("word(0, " + k + ")", x.word(0, k), RentSizes.OUTSIDE);
            }
            x.tick(2);
        }
        Check.refused(x, "write an archived one", () -> x.write(0, 0, 1), RentSizes.STATE);
        Check.due("word of an archived one", x.word(0, 0), RentSizes.STATE);
        x.drop(0);
        Check.refused(x, "write one that is gone", () -> x.write(0, 0, 1), RentSizes.STATE);
        Check.due("word of one that is gone", x.word(0, 0), RentSizes.STATE);
    }

    private static int digestOf(int size, int... words) {
        long d = size;
        for (int word : words) {
            d = (31 * d + word) & 0xffffffffL;
        }
        return (int) (d ^ (d >> 13));
    }

    private static void digests() {
        RentSizes x = new RentSizes();
        x.make(0, 0, 9, 1);
        x.write(0, 0, 7);
        Check.due("digest(0)", x.digest(0), 8521266);
        x.grow(0, 0, 1);
        Check.due("digest after grow", x.digest(0), digestOf(10, 7, 0, 0, 0));
        x.shrink(0, 7);
        x.write(0, 1, Integer.MIN_VALUE);
        x.write(0, 2, -1);
        x.write(0, 3, Integer.MAX_VALUE);
        int due = digestOf(3, 7, Integer.MIN_VALUE, -1, Integer.MAX_VALUE);
        Check.due("digest that wraps", x.digest(0), due);
        x.tick(2);
        Check.due("digest when archived", x.digest(0), due);
        x.drop(0);
        Check.due("digest when gone", x.digest(0), due);
        x.make(0, 0, 1, 1);
        x.drop(1);
        Check.due("digest when dropped live", x.digest(1), digestOf(1, 0, 0, 0, 0));
    }

    private static void products() {
        RentSizes x = new RentSizes();
        long[][] fit = {
            {3, -4}, {0, MIN}, {MIN, 0}, {0, 0}, {1, MIN}, {MIN, 1}, {-1, MAX}, {MAX, -1}, {MAX, 1}, {-1, -1},
            {1L << 31, 1L << 31}, {1L << 32, -(1L << 31)}, {-(1L << 62), 2}, {2, -(1L << 62)}, {3037000499L, 3037000499L},
            {7, MAX / 7}, {-7, MAX / 7}, {MAX / 7, 7},
        };
        for (long[] f : fit) {
            Check.due("exact(" + f[0] + ", " + f[1] + ")", x.exact(f[0], f[1]), f[0] * f[1]);
        }
    }

    private static void productsBeyond() {
        RentSizes x = new RentSizes();
        long[][] beyond = {
            {-1, MIN}, {MIN, -1}, {MIN, MIN}, {MAX, MAX}, {MIN, 2}, {2, MIN}, {MAX, 2}, {1L << 32, 1L << 31}, {1L << 32, 1L << 32},
            {3037000500L, 3037000500L}, {-(1L << 62), -2}, {8, MAX / 7}, {-(1L << 31), -(1L << 32)}, {MAX, MIN},
        };
        for (long[] b : beyond) {
            Check.throwsArithmetic("exact(" + b[0] + ", " + b[1] + ")", () -> x.exact(b[0], b[1]));
        }
        Check.same("what stands after them", Picture.of(x), Picture.of(new RentSizes()));
    }
}
