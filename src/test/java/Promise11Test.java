/** Promise 11: back. */
public final class Promise11Test {
    private static final int MIN = Integer.MIN_VALUE;
    private static final int MAX = Integer.MAX_VALUE;

    public static void main(String[] args) {
        whatWasPaid();
        unknown();
        outsideHeights();
        notArchived();
        proof();
        capped();
        lacks();
        lacksByFar();
        order();
        Check.done();
    }

    /** Object 0 of owner 1: 10 bytes, paid by 2 up to HEIGHT 1; ARCHIVED at HEIGHT 2. */
    private static Run archived() {
        Run x = new Run();
        x.make(2, 1, 10, 1);
        x.write(0, 2, 77);
        x.tick(2).is(1);
        return x;
    }

    private static int digestOf(Run x, int object) {
        return (int) x.digest(object).value();
    }

    private static void whatWasPaid() {
        Check.sentence("BACK from the archive: what was paid");
        Run x = archived();
        x.back(0, 4, digestOf(x, 0), 3).is(10 * (3 + 1));
        x.objectIs(0, 1, 10, 5, 0, 1, 100, 10);
        x.word(0, 2).is(77);
        x.coins(0, 4).is(100000 - 40);
        x.coins(0, 2).is(100000 - 110);
        x.layersAre(0, new int[] {10, 10, 2});
        x.told(6).is(50);
        Run y = new Run();
        y.make(0, 0, 3, 1);
        y.tick(2);
        y.back(0, 0, digestOf(y, 0), 1).is(8 * 2);
    }

    private static void unknown() {
        Check.sentence("UNKNOWN");
        Run x = archived();
        int digest = digestOf(x, 0);
        for (int object : new int[] {-1, 1, 60, MIN, MAX}) {
            x.back(object, 0, digest, 1).unknown();
            x.back(object, 0, -109, 1).unknown();
        }
        for (int payer : new int[] {-1, 6, MIN, MAX}) {
            x.back(0, payer, digest, 1).unknown();
        }
        x.back(0, 5, digest, 1).is(20);
    }

    private static void outsideHeights() {
        Check.sentence("OUTSIDE: heights");
        Run x = archived();
        int digest = digestOf(x, 0);
        for (int heights : new int[] {0, -1, 101, MIN, MAX}) {
            x.back(0, 0, digest, heights).outside();
        }
        x.back(0, 0, digest, 100).is(10 * 101);
        Run y = archived();
        y.back(0, 0, digest, 1).is(10 * 2);
    }

    private static void notArchived() {
        Check.sentence("STATE: it is not ARCHIVED");
        Run x = new Run();
        x.make(0, 0, 10, 1);
        x.make(0, 0, 10, 1);
        x.drop(1);
        int digest = digestOf(x, 0);
        x.tick(1);
        x.back(0, 0, digest, 1).state();
        x.back(1, 0, digest, 1).state();
        x.tick(1);
        x.back(0, 0, digest, 1).is(20);
        x.back(0, 0, digest, 1).state();
        x.tick(2).is(1);
        x.drop(0);
        x.back(0, 0, digest, 1).state();
    }

    private static void proof() {
        Check.sentence("PROOF");
        Run x = archived();
        int digest = digestOf(x, 0);
        for (int other : new int[] {digest - 1, digest + 1, ~digest, 0, MIN, MAX}) {
            x.back(0, 0, other, 1).proof();
        }
        x.back(0, 0, digest, 1).is(20);
        x.write(0, 2, 78);
        x.tick(2).is(1);
        x.back(0, 0, digest, 1).proof();
    }

    private static void capped() {
        Check.sentence("CAPPED");
        Run x = archived();
        int digest = digestOf(x, 0);
        x.cap(1, 9);
        x.back(0, 0, digest, 1).capped();
        x.cap(1, 10);
        x.back(0, 0, digest, 1).is(20);
        Run y = archived();
        y.make(0, 1, 991, 50).is(1);
        y.back(0, 0, digest, 1).capped();
        y.shrink(1, 1);
        y.back(0, 0, digest, 1).is(20);
        y.told(4).is(1000);
    }

    private static void lacks() {
        Check.sentence("LACKS");
        Run x = archived();
        int digest = digestOf(x, 0);
        x.make(0, 0, 900, 100);
        x.coins(0, 0).is(1000);
        x.back(0, 0, digest, 100).lacks();
        x.back(0, 0, digest, 99).is(1000);
        x.coins(0, 0).is(0);
        x.tick(100).is(1);
        x.back(0, 0, digest, 1).lacks();
        x.back(0, 3, digest, 1).is(20);
    }

    /** The dearest one that a run can come to: all bytes at the greatest RENT for some 50000 HEIGHTS. */
    private static void lacksByFar() {
        Check.sentence("LACKS (a RENT far above all COINS)");
        Run x = new Run();
        x.edition(40000, 0, 20, 64);
        x.edition(50000, 0, 0, 1);
        x.make(0, 0, 1000, 1);
        int digest = digestOf(x, 0);
        for (int i = 0; i < 499; i++) {
            x.tick(100);
        }
        x.back(0, 1, digest, 100).lacks();
        x.tick(100).is(0);
        x.back(0, 1, digest, 100).is(0);
        x.object(0, 2).is(50100);
    }

    /** All refusals fit at once, as far as they can together; then they are taken away one by one. */
    private static void order() {
        Check.sentence("UNKNOWN; OUTSIDE ..; STATE ..; PROOF; CAPPED; LACKS: the first that fits");
        Run x = new Run();
        x.make(0, 0, 900, 100);
        x.make(1, 1, 100, 1);
        int digest = digestOf(x, 1);
        x.cap(1, 99);
        x.back(2, 0, digest + 1, 0).unknown();
        x.back(1, 6, digest + 1, 101).unknown();
        x.back(1, 0, digest + 1, 0).outside();
        x.back(1, 0, digest + 1, 101).outside();
        x.back(1, 0, digest + 1, 100).state();
        x.tick(2).is(1);
        x.back(1, 6, digest + 1, 0).unknown();
        x.back(1, 0, digest + 1, 0).outside();
        x.back(1, 0, digest + 1, 100).proof();
        x.back(1, 0, digest, 100).capped();
        x.cap(1, 100);
        x.back(1, 0, digest + 1, 100).proof();
        x.back(1, 0, digest, 100).lacks();
        x.back(1, 0, digest, 9).is(1000);
        x.tick(10).is(1);
        x.drop(1);
        x.cap(1, 0);
        x.back(1, 0, digest + 1, 100).state();
    }
}
