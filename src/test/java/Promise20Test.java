import java.math.BigInteger;

/** Promise 20: exact. */
public final class Promise20Test {
    private static final long MIN = Long.MIN_VALUE;
    private static final long MAX = Long.MAX_VALUE;

    public static void main(String[] args) {
        products();
        edgesThatFit();
        edgesThatDoNot();
        roundTheEdges();
        objectGoesOn();
        Check.done();
    }

    private static void products() {
        Check.sentence("a times b");
        Run x = new Run();
        x.exact(3, -4).isAndChangesNothing(-12);
        x.exact(0, 0).is(0);
        x.exact(0, MIN).is(0);
        x.exact(MIN, 0).is(0);
        x.exact(0, MAX).is(0);
        x.exact(-1, -1).is(1);
        x.exact(-1, 1).is(-1);
        x.exact(123456789L, 987654321L).is(121932631112635269L);
    }

    private static void edgesThatFit() {
        Check.sentence("ArithmeticException: it does not go into 64 bits (it just goes)");
        Run x = new Run();
        x.exact(1, MIN).is(MIN);
        x.exact(MIN, 1).is(MIN);
        x.exact(1, MAX).is(MAX);
        x.exact(-1, MAX).is(-MAX);
        x.exact(MAX, -1).is(-MAX);
        x.exact(1L << 32, -(1L << 31)).is(MIN);
        x.exact(-(1L << 62), 2).is(MIN);
        x.exact(2, -(1L << 62)).is(MIN);
        x.exact(1L << 31, 1L << 31).is(1L << 62);
        x.exact(3037000499L, 3037000499L).is(9223372030926249001L);
        x.exact(7, MAX / 7).is(MAX);
        x.exact(-7, MAX / 7).is(-MAX);
        x.exact(MAX / 2, 2).is(MAX - 1);
    }

    private static void edgesThatDoNot() {
        Check.sentence("ArithmeticException: it does not go into 64 bits");
        long[][] beyond = {
            {-1, MIN}, {MIN, -1}, {MIN, MIN}, {MAX, MAX}, {MAX, MIN}, {MIN, MAX}, {MIN, 2}, {2, MIN}, {MAX, 2}, {2, MAX},
            {1L << 32, 1L << 31}, {-(1L << 31), -(1L << 32)}, {1L << 32, 1L << 32}, {-(1L << 62), -2}, {1L << 62, 2},
            {3037000500L, 3037000500L}, {-3037000500L, 3037000500L}, {8, MAX / 7}, {MAX / 2 + 1, 2}, {MIN / 2 - 1, 2},
        };
        Run x = new Run();
        for (long[] b : beyond) {
            x.exact(b[0], b[1]).throwsArithmetic();
        }
    }

    /** Of many factors the greatest other one that fits, and the next beyond it, by numbers without bounds. */
    private static void roundTheEdges() {
        Check.sentence("a times b. ArithmeticException: it does not go into 64 bits (both sides of the edge)");
        for (long a : new long[] {2, 3, 5, 10, 641, 65536, 6700417, 1L << 31, (1L << 32) - 1, (1L << 32) + 1, 1L << 61, MAX / 3, MAX}) {
            for (long edge : new long[] {MAX, MIN}) {
                Run x = new Run();
                long b = edge / a;
                long beyond = b + (edge > 0 ? 1 : -1);
                x.exact(a, b).is(a * b);
                x.exact(b, a).is(a * b);
                boolean fits = BigInteger.valueOf(a).multiply(BigInteger.valueOf(beyond)).bitLength() < 64;
                Check.due(a + " times " + beyond + " fits", fits ? 1 : 0, 0);
                x.exact(a, beyond).throwsArithmetic();
                x.exact(beyond, a).throwsArithmetic();
                x.exact(-a, -b).is(a * b);
                x.exact(-a, -beyond).throwsArithmetic();
            }
        }
    }

    private static void objectGoesOn() {
        Check.sentence("ArithmeticException (and the object is as it was)");
        Run x = new Run();
        x.make(0, 0, 10, 1);
        x.weight(1, 1);
        x.exact(MAX, MAX).throwsArithmetic();
        x.tick(2).is(1);
        x.coins(1, 1).is(10);
    }
}
