/** Promises 1 (a new object), 15 (coins), 21 (told) and 22 (clear). */
public final class BeginningTest {
    public static void main(String[] args) {
        newObject(new RentSizes());
        coins();
        told();
        clear();
        clearUsesNothingOld();
        Check.done();
    }

    private static void newObject(RentSizes x) {
        int[] told = {0, 0, 0, 0, 0, 0, 0, 600000, 1, 0};
        for (int what = 0; what < told.length; what++) {
            Check.due("new: told(" + what + ")", x.told(what), told[what]);
        }
        for (int a = 0; a < 6; a++) {
            Check.due("new: coins(0, " + a + ")", x.coins(0, a), 100000);
        }
        for (int n = 0; n < 5; n++) {
            Check.due("new: coins(1, " + n + ")", x.coins(1, n), 0);
        }
        Check.due("new: object(0, 0)", x.object(0, 0), RentSizes.UNKNOWN);
    }

    private static void coins() {
        RentSizes x = new RentSizes();
        Check.due("coins(0, -1)", x.coins(0, -1), RentSizes.UNKNOWN);
        Check.due("coins(0, 6)", x.coins(0, 6), RentSizes.UNKNOWN);
        Check.due("coins(1, -1)", x.coins(1, -1), RentSizes.UNKNOWN);
        Check.due("coins(1, 5)", x.coins(1, 5), RentSizes.UNKNOWN);
        Check.due("coins(-1, 0)", x.coins(-1, 0), RentSizes.OUTSIDE);
        Check.due("coins(2, 5)", x.coins(2, 5), RentSizes.OUTSIDE);
        Check.due("coins(min, max)", x.coins(Integer.MIN_VALUE, 0), RentSizes.OUTSIDE);
        x.make(3, 0, 20, 2);
        x.weight(4, 1);
        x.tick(1);
        Check.due("coins of the payer", x.coins(0, 3), 100000 - 200 - 40);
        Check.due("coins of the node", x.coins(1, 4), 40);
    }

    private static void told() {
        RentSizes x = new RentSizes();
        x.make(0, 0, 10, 1);
        x.make(1, 1, 20, 50);
        x.make(2, 2, 30, 50);
        x.make(3, 3, 40, 50);
        x.drop(3);
        x.edition(60, 1, 1, 1);
        x.tick(2);
        x.weight(2, 5);
        int[] before = {2, 4, 2, 1, 50, 600, 10 + 1000 + 1500 + 2000, 600000, 2, 0};
        for (int what = 0; what < before.length; what++) {
            Check.due("before the share: told(" + what + ")", x.told(what), before[what]);
        }
        x.tick(1);
        Check.due("after the share: told(6)", x.told(6), 0);
        Check.due("after the share: told(7)", x.told(7), 600000);
        Check.due("after the share: told(9)", x.told(9), 4510);
        Check.due("told(-1)", x.told(-1), RentSizes.OUTSIDE);
        Check.due("told(10)", x.told(10), RentSizes.OUTSIDE);
    }

    private static void clear() {
        RentSizes x = used();
        Check.due("clear()", x.clear(), 3);
        Check.same("a cleared object", Picture.of(x), Picture.of(new RentSizes()));
        Check.due("clear() again", x.clear(), 0);
    }

    private static void clearUsesNothingOld() {
        RentSizes x = used();
        x.clear();
        RentSizes y = new RentSizes();
        for (RentSizes z : new RentSizes[] {x, y}) {
            z.make(5, 4, 7, 9);
            z.grow(0, 5, 1);
        }
        Check.same("a first object after clear()", Picture.of(x), Picture.of(y));
    }

    private static RentSizes used() {
        RentSizes x = new RentSizes();
        x.edition(5, 3, 2, 1);
        x.make(0, 1, 100, 10);
        x.grow(0, 2, 50);
        x.write(0, 0, 99);
        x.write(0, 3, -5);
        x.make(1, 1, 10, 1);
        x.make(1, 1, 10, 1);
        x.drop(2);
        x.cap(3, 17);
        x.weight(0, 3);
        x.tick(6);
        x.grow(0, 3, 5);
        return x;
    }
}
