/** Promise 8: pay. */
public final class Promise08Test {
    private static final int MIN = Integer.MIN_VALUE;
    private static final int MAX = Integer.MAX_VALUE;

    public static void main(String[] args) {
        whatWasPaid();
        unknown();
        outside();
        notLive();
        beyond();
        lacks();
        order();
        Check.done();
    }

    private static void whatWasPaid() {
        Check.sentence("PAID for more HEIGHTS: what was paid");
        Run x = new Run();
        x.edition(5, 1, 3, 30);
        x.make(0, 1, 20, 5);
        x.pay(0, 3, 7).is(140);
        x.objectIs(0, 1, 20, 12, 0, 1, 200, 20);
        x.coins(0, 3).is(99860);
        x.told(6).is(240);
        x.shrink(0, 15);
        x.pay(0, 3, 1).is(8);
        x.tick(5);
        x.pay(0, 3, 2).is(30 * 3 * 2);
        x.object(0, 2).is(15);
    }

    private static void unknown() {
        Check.sentence("UNKNOWN");
        Run x = new Run();
        x.make(0, 0, 10, 1);
        for (int object : new int[] {-1, 1, 60, MIN, MAX}) {
            x.pay(object, 0, 1).unknown();
        }
        for (int payer : new int[] {-1, 6, MIN, MAX}) {
            x.pay(0, payer, 1).unknown();
        }
        x.pay(0, 0, 1).is(10);
        x.pay(0, 5, 1).is(10);
    }

    private static void outside() {
        Check.sentence("OUTSIDE");
        Run x = new Run();
        x.make(0, 0, 10, 1);
        for (int heights : new int[] {0, -1, 101, MIN, MAX}) {
            x.pay(0, 0, heights).outside();
        }
        x.pay(0, 0, 1).is(10);
        x.pay(0, 0, 100).is(1000);
    }

    private static void notLive() {
        Check.sentence("STATE: it is not LIVE");
        Run x = new Run();
        x.make(0, 0, 10, 1);
        x.make(0, 0, 10, 1);
        x.drop(1);
        x.pay(1, 0, 1).state();
        x.tick(1);
        x.pay(0, 0, 1).is(10);
        x.tick(2);
        x.pay(0, 0, 1).state();
    }

    private static void beyond() {
        Check.sentence("STATE: .. or beyond HEIGHT and 400");
        Run x = new Run();
        x.make(0, 0, 10, 100);
        for (int i = 0; i < 3; i++) {
            x.pay(0, 1, 100).is(1000);
        }
        x.object(0, 2).is(400);
        x.pay(0, 1, 1).state();
        x.pay(0, 1, 100).state();
        x.tick(100);
        x.pay(0, 1, 100).is(1000);
        x.object(0, 2).is(500);
        x.pay(0, 1, 1).state();
        x.tick(1);
        x.pay(0, 1, 2).state();
        x.pay(0, 1, 1).is(10);
    }

    private static void lacks() {
        Check.sentence("LACKS");
        Run x = new Run();
        x.make(0, 0, 909, 100);
        x.make(1, 1, 10, 1);
        x.pay(1, 0, 2).lacks();
        x.pay(1, 0, 1).is(10);
        x.coins(0, 0).is(0);
        x.pay(1, 0, 1).lacks();
        x.pay(1, 1, 1).is(10);
    }

    private static void order() {
        Check.sentence("UNKNOWN; OUTSIDE; STATE ..; LACKS: the first that fits");
        Run x = new Run();
        x.make(0, 0, 909, 100);
        x.make(1, 1, 10, 100);
        x.make(1, 1, 10, 1);
        for (int i = 0; i < 3; i++) {
            x.pay(1, 1, 99);
        }
        x.tick(2).is(1);
        for (int object = 1; object <= 2; object++) {
            x.pay(object, 6, 0).unknown();
            x.pay(object, 0, 0).outside();
            x.pay(object, 0, 101).outside();
            x.pay(object, 0, 100).state();
        }
        x.pay(3, 0, 101).unknown();
        x.pay(1, 0, 6).state();
        x.pay(1, 0, 5).lacks();
        x.pay(1, 1, 6).state();
        x.pay(1, 1, 5).is(50);
    }
}
