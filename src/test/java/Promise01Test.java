/** Promise 1: a new object. */
public final class Promise01Test {
    public static void main(String[] args) {
        heightNought();
        noObjects();
        allElseAtFirst();
        onesOfTheirOwn();
        Check.done();
    }

    private static void heightNought() {
        Check.sentence("HEIGHT 0");
        new Run().told(0).isAndChangesNothing(0);
    }

    private static void noObjects() {
        Check.sentence("no OBJECTS");
        Run x = new Run();
        for (int what = 1; what <= 6; what++) {
            x.told(what).is(0);
        }
        for (int what = 0; what <= 6; what++) {
            x.object(0, what).unknown();
        }
        x.digest(0).none();
        x.make(0, 0, 1, 1).is(0);
        x.told(1).is(1);
    }

    private static void allElseAtFirst() {
        Check.sentence("ACCOUNTS .. have 100000 COINS each at first, NODES .. none");
        Run x = new Run();
        x.accountsAre(100000, 100000, 100000, 100000, 100000, 100000);
        x.nodesAre(0, 0, 0, 0, 0);
        x.told(7).is(600000);
        x.told(8).is(1);
        x.told(9).is(0);
        for (int account = 0; account < 6; account++) {
            x.cap(account, 1).is(1000);
        }
    }

    private static void onesOfTheirOwn() {
        Check.sentence("RentSizes()");
        Run x = new Run();
        Run y = new Run();
        x.make(0, 0, 10, 1);
        x.edition(5, 1, 1, 1);
        x.cap(0, 10);
        x.weight(0, 1);
        x.tick(1);
        Check.same("a second one, while the first is used", Look.at(y.calls()), Look.at(new Run().calls()));
        y.told(0).is(0);
        y.told(1).is(0);
        y.coins(0, 0).is(100000);
    }
}
