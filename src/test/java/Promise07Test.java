/** Promise 7: shrink. */
public final class Promise07Test {
    public static void main(String[] args) {
        whatWasGivenBack();
        toWhoPaid();
        unknown();
        outside();
        stateAhead();
        Check.done();
    }

    private static void whatWasGivenBack() {
        Check.sentence("SHRUNK: what was given back");
        Run x = new Run();
        x.edition(5, 0, 1, 8);
        x.make(0, 1, 10, 50);
        x.tick(5);
        x.grow(0, 0, 5);
        x.shrink(0, 5).is(0);
        x.shrink(0, 1).is(10);
        x.shrink(0, 8).is(80);
        x.objectIs(0, 1, 1, 50, 0, 1, 10, 8);
        x.told(4).is(1);
        x.told(5).is(10);
    }

    private static void toWhoPaid() {
        Check.sentence("each gives back its PRICE to the one from whom it was taken");
        Run x = new Run();
        x.edition(5, 4, 1, 8);
        x.make(0, 2, 15, 50);
        x.grow(0, 1, 6);
        x.grow(0, 0, 7);
        x.tick(5);
        x.grow(0, 0, 8);
        int[] before = {(int) x.coins(0, 0).value(), (int) x.coins(0, 1).value()};
        x.shrink(0, 20).is(152);
        x.accountsAre(before[0] + 32 + 70, before[1] + 50, 100000);
        x.layersAre(0, new int[] {15, 10, 0}, new int[] {1, 10, 1});
        x.shrink(0, 1).is(10);
        x.layersAre(0, new int[] {15, 10, 0});
        x.shrink(0, 14).is(140);
        x.accountsAre(before[0] + 102 + 140, before[1] + 60, 100000);
        x.told(7).is(600000);
    }

    private static void unknown() {
        Check.sentence("UNKNOWN");
        Run x = new Run();
        x.shrink(0, 1).unknown();
        x.make(0, 0, 10, 1);
        for (int object : new int[] {-1, 1, 60, Integer.MIN_VALUE, Integer.MAX_VALUE}) {
            x.shrink(object, 1).unknown();
            x.shrink(object, 0).unknown();
        }
    }

    private static void outside() {
        Check.sentence("OUTSIDE: less is not 1 to its SIZE less 1");
        Run x = new Run();
        x.make(0, 0, 10, 1);
        for (int less : new int[] {0, -1, 10, 11, 1000, Integer.MIN_VALUE, Integer.MAX_VALUE}) {
            x.shrink(0, less).outside();
        }
        x.shrink(0, 1).is(10);
        x.shrink(0, 9).outside();
        x.shrink(0, 8).is(80);
        x.shrink(0, 1).outside();
        Run y = new Run();
        y.make(0, 0, 1000, 1);
        y.shrink(0, 1000).outside();
        y.shrink(0, 999).is(9990);
    }

    private static void stateAhead() {
        Check.sentence("STATE (ahead of that): it is not LIVE");
        Run x = new Run();
        x.make(0, 0, 10, 1);
        x.make(0, 0, 10, 1);
        x.drop(1);
        x.tick(1);
        x.shrink(0, 0).outside();
        x.tick(1);
        for (int object = 0; object < 2; object++) {
            for (int less : new int[] {0, -1, 1, 9, 10, Integer.MIN_VALUE, Integer.MAX_VALUE}) {
                x.shrink(object, less).state();
            }
        }
        x.shrink(2, 1).unknown();
        x.back(0, 0, (int) x.digest(0).value(), 1);
        x.shrink(0, 9).is(90);
    }
}
