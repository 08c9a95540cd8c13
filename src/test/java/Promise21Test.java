/** Promise 21: told. */
public final class Promise21Test {
    public static void main(String[] args) {
        tellsEach();
        allCoinsTogether();
        paidToNodesInAll();
        outside();
        Check.done();
    }

    private static void tellsEach() {
        Check.sentence("HEIGHT (what = 0), OBJECTS in all (1), LIVE ones (2), ARCHIVED ones (3), SIZES of LIVE ones (4), HELD (5), THE POOL (6), "
                + "all COINS of ACCOUNTS, NODES, HELD and POOL together (7), EDITIONS (8), what was paid to NODES in all (9)");
        Run x = new Run();
        x.make(0, 0, 10, 1);
        x.make(1, 1, 20, 50);
        x.make(2, 2, 30, 50);
        x.make(3, 3, 40, 50);
        x.drop(3);
        x.edition(60, 1, 1, 1);
        x.tick(2);
        x.weight(2, 5);
        int[] before = {2, 4, 2, 1, 50, 600, 10 + 1000 + 1500 + 2000, 600000, 2, 0};
        for (int what = 0; what <= 9; what++) {
            x.told(what).isAndChangesNothing(before[what]);
        }
        x.tick(1);
        int[] after = {3, 4, 2, 1, 50, 600, 0, 600000, 2, 4510};
        for (int what = 0; what <= 9; what++) {
            x.told(what).is(after[what]);
        }
    }

    private static void allCoinsTogether() {
        Check.sentence("all COINS of ACCOUNTS, NODES, HELD and POOL together (7): no coin is made or lost");
        Run x = new Run();
        x.edition(5, 3, 2, 1);
        x.make(0, 1, 100, 3);
        x.told(7).is(600000);
        x.grow(0, 2, 50);
        x.told(7).is(600000);
        x.shrink(0, 60);
        x.told(7).is(600000);
        x.pay(0, 3, 1);
        x.told(7).is(600000);
        x.weight(0, 1);
        x.weight(1, 2);
        x.weight(4, 4);
        x.tick(6).is(1);
        x.told(7).is(600000);
        x.back(0, 4, (int) x.digest(0).value(), 7);
        x.told(7).is(600000);
        x.tick(1);
        x.told(7).is(600000);
        x.drop(0);
        x.told(7).is(600000);
        x.told(5).is(0);
    }

    private static void paidToNodesInAll() {
        Check.sentence("what was paid to NODES in all (9)");
        Run x = new Run();
        x.make(0, 0, 10, 1);
        x.told(9).is(0);
        x.weight(1, 1);
        x.told(9).is(0);
        x.tick(1);
        x.told(9).is(10);
        x.pay(0, 0, 3);
        x.weight(1, 0);
        x.weight(2, 2);
        x.tick(1);
        x.told(9).is(40);
        x.nodesAre(0, 10, 30, 0, 0);
    }

    private static void outside() {
        Check.sentence("OUTSIDE");
        Run x = new Run();
        for (int what : new int[] {-1, 10, Integer.MIN_VALUE, Integer.MAX_VALUE}) {
            x.told(what).outside();
        }
        x.told(0).is(0);
        x.told(9).is(0);
    }
}
