/** Promise 10: drop. */
public final class Promise10Test {
    public static void main(String[] args) {
        liveOne();
        archivedOne();
        allItsBytesGo();
        unknown();
        state();
        Check.done();
    }

    private static void liveOne() {
        Check.sentence("An OBJECT that is LIVE .. is GONE: what was given back");
        Run x = new Run();
        x.make(0, 1, 1, 9);
        x.make(3, 1, 1000 - 1, 9);
        x.drop(1).is(9990);
        x.objectIs(1, 1, 0, 9, 2, 0, 0, 0);
        x.coins(0, 3).is(100000 - 999 * 9);
        x.drop(0).is(10);
        x.told(1).is(2);
        x.told(2).is(0);
        x.told(4).is(0);
        x.told(5).is(0);
        x.told(6).is(999 * 9 + 72);
    }

    private static void archivedOne() {
        Check.sentence("An OBJECT that is .. ARCHIVED is GONE: what was given back");
        Run x = new Run();
        x.make(3, 1, 10, 1);
        x.tick(2);
        x.told(3).is(1);
        x.drop(0).is(100);
        x.objectIs(0, 1, 0, 1, 2, 0, 0, 0);
        x.told(3).is(0);
        x.coins(0, 3).is(100000 - 10);
    }

    private static void allItsBytesGo() {
        Check.sentence("all its bytes go");
        Run x = new Run();
        x.edition(5, 4, 1, 8);
        x.make(0, 2, 15, 50);
        x.grow(0, 1, 6);
        x.grow(0, 0, 7);
        x.tick(5);
        x.grow(0, 5, 8);
        int[] before = {(int) x.coins(0, 0).value(), (int) x.coins(0, 1).value(), 100000, 100000, 100000, (int) x.coins(0, 5).value()};
        x.drop(0).is(220 + 60 + 32);
        x.accountsAre(before[0] + 220, before[1] + 60, 100000, 100000, 100000, before[5] + 32);
        x.layersAre(0);
        x.told(7).is(600000);
    }

    private static void unknown() {
        Check.sentence("UNKNOWN");
        Run x = new Run();
        x.drop(0).unknown();
        x.make(0, 0, 10, 1);
        for (int object : new int[] {-1, 1, 60, Integer.MIN_VALUE, Integer.MAX_VALUE}) {
            x.drop(object).unknown();
        }
        x.drop(0).is(100);
    }

    private static void state() {
        Check.sentence("STATE");
        Run x = new Run();
        x.make(0, 0, 10, 1);
        x.make(0, 0, 10, 1);
        x.drop(0);
        x.drop(0).state();
        x.tick(2);
        x.drop(0).state();
        x.drop(1);
        x.drop(1).state();
    }
}
