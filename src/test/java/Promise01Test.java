/** Promise 1: a new object. */
public final class Promise01Test {
    public static void main(String[] args) {
        heightNought();
        noObjects();
        allElseAtFirst();
        onesOfTheirOwn();
        Check.done();
    }

    private static void heightNought() {
        Check.sentence("HEIGHT 0");
        new Run().told(0).isAndChangesNothing(0);
    }

    private static void noObjects() {
        Check.sentence("no OBJECTS");
        Run x = new Run();
        for (int what = 1; what <= 6; what++) {
            x.told(what).is(0);
        }
        for (int what = 0; what <= 6; what++) {
            x.object(0, what).unknown();
        }
        x.digest(0).none();
        x.make(0, 0, 1, 1).is(0);
        x.told(1).is(1);
    }

    private static void allElseAtFirst() {
        Check.sentence("ACCOUNTS .. have 100000 COINS each at first, NODES .. none");
        Run x = new Run();
        x.accountsAre(100000, 100000, 100000, 100000, 100000, 100000);
        x.nodesAre(0, 0, 0, 0, 0);
        x.told(7).is(600000);
        x.told(8).is(1);
        x.told(9).is(0);
        for (int account = 0; account < 6; account++) {
            x.cap(account, 1).is(1000);
        }
    }

    /** Two of them by turns: what the one is told is asked of the other, which must know nothing of it. */
    private static void onesOfTheirOwn() {
        Check.sentence("RentSizes() (each for itself)");
        Run x = new Run();
        Run y = new Run();
        x.edition(5, 1, 1, 1).is(2);
        y.told(8).is(1);
        y.priceAt(5, 0).is(10);
        x.make(0, 0, 10, 1).is(0);
        y.told(1).is(0);
        y.coins(0, 0).is(100000);
        y.told(5).is(0);
        y.told(6).is(0);
        x.weight(0, 1).is(0);
        x.cap(0, 10).is(1000);
        x.tick(2).is(1);
        y.told(0).is(0);
        y.told(9).is(0);
        y.make(1, 0, 11, 5).is(0);
        x.objectIs(0, 0, 10, 1, 1, 1, 100, 10);
        y.write(0, 0, 7).is(1);
        y.grow(0, 2, 3).is(30 + 15);
        x.layersAre(0, new int[] {10, 10, 0});
        x.digest(0).is(9235210 ^ 1127);
        y.tick(1).is(0);
        y.told(6).is(70);
        x.nodesAre(10, 0, 0, 0, 0);
        y.nodesAre(0, 0, 0, 0, 0);
        x.clear().is(1);
        y.objectIs(0, 0, 14, 5, 0, 2, 140, 14);
        y.word(0, 0).is(7);
        y.accountsAre(100000, 100000 - 110 - 55, 100000 - 45);
        y.weight(0, 1).is(0);
        y.cap(0, 1).is(1000);
        x.told(1).is(0);
    }
}
