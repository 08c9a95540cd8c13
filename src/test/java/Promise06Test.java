/** Promise 6: grow. */
public final class Promise06Test {
    private static final int MIN = Integer.MIN_VALUE;
    private static final int MAX = Integer.MAX_VALUE;

    public static void main(String[] args) {
        whatWasPaid();
        bySoMuch();
        unknown();
        sizeAbove();
        notLive();
        sizeOfOneThatIsGone();
        capped();
        lacks();
        seventeenth();
        order();
        Check.done();
    }

    private static void whatWasPaid() {
        Check.sentence("GROWN by so much ..: what was paid");
        Run x = new Run();
        x.make(0, 1, 10, 50);
        x.grow(0, 2, 3).is(30 + 150);
        x.coins(0, 2).is(100000 - 180);
        x.coins(0, 0).is(100000 - 100 - 500);
        x.coins(0, 1).is(100000);
        x.objectIs(0, 1, 13, 50, 0, 2, 130, 13);
        x.told(4).is(13);
        x.told(5).is(130);
        x.told(6).is(650);
        Run y = new Run();
        y.edition(5, 0, 0, 1);
        y.make(0, 0, 10, 50);
        y.tick(5);
        y.grow(0, 3, 990).is(0);
        y.layersAre(0, new int[] {10, 10, 0}, new int[] {990, 0, 3});
    }

    private static void bySoMuch() {
        Check.sentence("by so much (1 to 999)");
        Run x = new Run();
        x.make(0, 0, 1, 1);
        for (int more : new int[] {0, -1, 1000, MIN, MAX}) {
            x.grow(0, 0, more).outside();
        }
        x.grow(0, 0, 999).is(9990 + 992);
        Run y = new Run();
        y.make(0, 0, 1, 1);
        y.grow(0, 0, 1).is(10);
    }

    private static void unknown() {
        Check.sentence("UNKNOWN");
        Run x = new Run();
        x.make(0, 0, 10, 1);
        for (int object : new int[] {-1, 1, 60, MIN, MAX}) {
            x.grow(object, 0, 1).unknown();
        }
        for (int payer : new int[] {-1, 6, MIN, MAX}) {
            x.grow(0, payer, 1).unknown();
        }
        x.grow(0, 5, 1).is(11);
        x.grow(0, 0, 1).is(11);
    }

    private static void sizeAbove() {
        Check.sentence("OUTSIDE: also a SIZE above 1000");
        Run x = new Run();
        x.cap(0, 5000);
        x.make(0, 0, 100, 3);
        x.grow(0, 0, 901).outside();
        x.grow(0, 0, 999).outside();
        x.grow(0, 5, 900).is(9000 + 2700);
        x.object(0, 1).is(1000);
        x.grow(0, 5, 1).outside();
        x.shrink(0, 1);
        x.grow(0, 5, 2).outside();
        x.grow(0, 5, 1).is(10 + 3);
    }

    private static void notLive() {
        Check.sentence("STATE: it is not LIVE");
        Run x = new Run();
        x.make(0, 0, 10, 1);
        x.make(0, 0, 10, 1);
        x.drop(1);
        x.grow(1, 0, 1).state();
        x.tick(1);
        x.grow(0, 0, 1).is(10);
        x.tick(1);
        x.grow(0, 0, 1).state();
        x.back(0, 0, (int) x.digest(0).value(), 1);
        x.grow(0, 0, 1).is(10 + 1);
    }

    private static void sizeOfOneThatIsGone() {
        Check.sentence("OUTSIDE: also a SIZE above 1000 (SIZE is 0 when GONE, and stays when ARCHIVED)");
        Run x = new Run();
        x.make(0, 0, 10, 1);
        x.make(0, 0, 10, 1);
        x.drop(1);
        x.grow(1, 0, 999).state();
        x.grow(1, 0, 1000).outside();
        x.tick(2).is(1);
        x.grow(0, 0, 990).state();
        x.grow(0, 0, 991).outside();
    }

    private static void capped() {
        Check.sentence("CAPPED");
        Run x = new Run();
        x.make(0, 0, 10, 1);
        x.make(0, 1, 10, 1);
        x.cap(0, 12);
        x.grow(0, 1, 3).capped();
        x.grow(0, 1, 2).is(20 + 2);
        x.grow(0, 1, 1).capped();
        x.grow(1, 0, 990).is(9900 + 990);
    }

    private static void lacks() {
        Check.sentence("LACKS");
        Run x = new Run();
        x.make(0, 0, 909, 100);
        x.make(1, 1, 10, 1);
        x.grow(1, 0, 1).lacks();
        x.tick(1);
        x.grow(1, 0, 2).lacks();
        x.grow(1, 0, 1).is(10);
        x.coins(0, 0).is(0);
        x.grow(1, 0, 1).lacks();
        x.grow(1, 1, 1).is(10);
    }

    /** Object 0 has 16 LAYERS of a byte each, from accounts 1 and 2 by turns, the newest from 2; its owner is 3. */
    private static Run sixteen() {
        Run x = new Run();
        x.make(1, 3, 1, 2);
        for (int i = 1; i <= 15; i++) {
            x.grow(0, 1 + i % 2, 1);
        }
        return x;
    }

    private static void seventeenth() {
        Check.sentence("ROOM: a 17th LAYER");
        Run x = sixteen();
        x.object(0, 4).is(16);
        x.grow(0, 1, 1).room();
        x.grow(0, 4, 900).room();
        x.grow(0, 2, 1).is(10 + 2);
        x.layer(0, 15, 0).is(2);
        x.shrink(0, 1);
        x.grow(0, 1, 1).room();
        x.shrink(0, 1);
        x.grow(0, 4, 1).is(10 + 2);
        x.object(0, 4).is(16);
    }

    /** All refusals fit at once, as far as they can together; then they are taken away one by one. */
    private static void order() {
        Check.sentence("UNKNOWN; OUTSIDE ..; STATE ..; CAPPED; LACKS; ROOM ..: the first that fits");
        Run x = sixteen();
        x.make(0, 0, 909, 100);
        x.cap(3, 0);
        x.tick(3).is(1);
        x.grow(2, 0, 0).unknown();
        x.grow(0, 6, 1000).unknown();
        x.grow(0, 0, 0).outside();
        x.grow(0, 0, 985).outside();
        x.grow(0, 0, 2).state();
        x.cap(3, 16);
        x.back(0, 4, (int) x.digest(0).value(), 1);
        x.grow(0, 6, 2).unknown();
        x.grow(0, 0, 1000).outside();
        x.grow(0, 0, 2).capped();
        x.cap(3, 18);
        x.grow(0, 0, 2).lacks();
        x.grow(0, 4, 2).room();
        x.grow(0, 2, 2).is(20 + 2);
    }
}
