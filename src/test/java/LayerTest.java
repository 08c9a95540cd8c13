/** Promises 6 (grow), 7 (shrink), 10 (drop), 17 (layer) and 19 (wouldGive). */
public final class LayerTest {
    public static void main(String[] args) {
        joins();
        growRefuses();
        seventeenth();
        givenBackJustSo();
        shrinkRefuses();
        dropGivesAll();
        layerTells();
        wouldGiveRefuses();
        Check.done();
    }

    private static void layers(RentSizes x, String when, int[][] due) {
        Check.due(when + ": object(0, 4)", x.object(0, 4), due.length);
        for (int k = 0; k < due.length; k++) {
            for (int what = 0; what < 3; what++) {
                Check.due(when + ": layer(0, " + k + ", " + what + ")", x.layer(0, k, what), due[k][what]);
            }
        }
        Check.due(when + ": layer(0, " + due.length + ", 0)", x.layer(0, due.length, 0), RentSizes.NONE);
    }

    /** Bytes at 10 from 0, 1 and 0 again, then at 4 from 0. */
    private static RentSizes layered() {
        RentSizes x = new RentSizes();
        x.edition(5, 4, 1, 8);
        x.make(0, 2, 10, 50);
        x.grow(0, 0, 5);
        x.grow(0, 1, 6);
        x.grow(0, 0, 7);
        x.tick(5);
        x.grow(0, 0, 8);
        return x;
    }

    private static void joins() {
        RentSizes x = layered();
        layers(x, "grown", new int[][] {{15, 10, 0}, {6, 10, 1}, {7, 10, 0}, {8, 4, 0}});
        Check.due("object(0, 1)", x.object(0, 1), 36);
        Check.due("object(0, 5)", x.object(0, 5), 280 + 32);
        Check.due("told(5)", x.told(5), 312);
        x.shrink(0, 10);
        layers(x, "shrunk", new int[][] {{15, 10, 0}, {6, 10, 1}, {5, 10, 0}});
        Check.due("grow by another price", x.grow(0, 0, 1), 4 + 45);
        layers(x, "grown again", new int[][] {{15, 10, 0}, {6, 10, 1}, {5, 10, 0}, {1, 4, 0}});
    }

    private static void growRefuses() {
        RentSizes x = new RentSizes();
        x.make(0, 0, 100, 3);
        Check.refused(x, "grow(1, 0, 1)", () -> x.grow(1, 0, 1), RentSizes.UNKNOWN);
        Check.refused(x, "grow(-1, 0, 1)", () -> x.grow(-1, 0, 1), RentSizes.UNKNOWN);
        Check.refused(x, "grow(0, 6, 1)", () -> x.grow(0, 6, 1), RentSizes.UNKNOWN);
        Check.refused(x, "grow(0, -1, 0)", () -> x.grow(0, -1, 0), RentSizes.UNKNOWN);
        for (int more : new int[] {0, -1, 1000, 901, Integer.MAX_VALUE, Integer.MIN_VALUE}) {
            Check.refused(x, "grow(0, 0, " + more + ")", () -> x.grow(0, 0, more), RentSizes.OUTSIDE);
        }
        Check.due("grow to 1000", x.grow(0, 5, 900), 9000 + 2700);
        x.tick(4);
        Check.refused(x, "grow an archived one", () -> x.grow(0, 0, 999), RentSizes.OUTSIDE);
        x.drop(0);
        Check.refused(x, "grow one that is gone", () -> x.grow(0, 0, 999), RentSizes.STATE);

        RentSizes y = new RentSizes();
        y.make(0, 0, 909, 100);
        y.make(1, 1, 10, 1);
        Check.refused(y, "grow and lack", () -> y.grow(1, 0, 1), RentSizes.LACKS);
        y.tick(1);
        Check.due("no height to come: the deposit alone", y.grow(1, 0, 1), 10);
        Check.due("coins(0, 0)", y.coins(0, 0), 0);
        y.tick(1);
        Check.refused(y, "grow an archived one", () -> y.grow(1, 0, 1), RentSizes.STATE);
    }

    private static void seventeenth() {
        RentSizes x = new RentSizes();
        x.make(5, 5, 909, 100);
        x.make(0, 0, 1, 1);
        for (int i = 1; i < 16; i++) {
            Check.due("grow " + i, x.grow(1, i % 2, 1) > 0 ? 1 : 0, 1);
        }
        Check.due("object(1, 4)", x.object(1, 4), 16);
        Check.refused(x, "a 17th layer", () -> x.grow(1, 2, 20), RentSizes.ROOM);
        Check.refused(x, "a 17th layer, lacking", () -> x.grow(1, 5, 20), RentSizes.LACKS);
        Check.due("joining the 16th", x.grow(1, 1, 20), 220);
        Check.due("layer(1, 15, 0)", x.layer(1, 15, 0), 21);
        Check.due("layer(1, 16, 0)", x.layer(1, 16, 0), RentSizes.NONE);
        Check.due("shrink(1, 21)", x.shrink(1, 21), 210);
        Check.due("a new 16th", x.grow(1, 2, 1), 11);
    }

    private static void givenBackJustSo() {
        RentSizes x = layered();
        int[] coins = {x.coins(0, 0), x.coins(0, 1)};
        Check.due("wouldGive(0, 20, 0)", x.wouldGive(0, 20, 0), 32 + 70);
        Check.due("wouldGive(0, 20, 1)", x.wouldGive(0, 20, 1), 50);
        Check.due("wouldGive(0, 20, 2)", x.wouldGive(0, 20, 2), 0);
        Check.due("wouldGive(0, 35, 0)", x.wouldGive(0, 35, 0), 32 + 70 + 140);
        int pool = x.told(6);
        Check.due("shrink(0, 20)", x.shrink(0, 20), 152);
        Check.due("coins(0, 0)", x.coins(0, 0), coins[0] + 102);
        Check.due("coins(0, 1)", x.coins(0, 1), coins[1] + 50);
        Check.due("no rent comes back", x.told(6), pool);
        Check.due("told(5)", x.told(5), 160);
        layers(x, "shrunk", new int[][] {{15, 10, 0}, {1, 10, 1}});
        Check.due("object(0, 1)", x.object(0, 1), 16);
        Check.due("object(0, 2)", x.object(0, 2), 50);
        Check.due("shrink to the edge of a layer", x.shrink(0, 1), 10);
        layers(x, "shrunk", new int[][] {{15, 10, 0}});
        Check.due("shrink to 1", x.shrink(0, 14), 140);
    }

    private static void shrinkRefuses() {
        RentSizes x = new RentSizes();
        x.make(0, 0, 10, 1);
        Check.refused(x, "shrink(1, 1)", () -> x.shrink(1, 1), RentSizes.UNKNOWN);
        Check.refused(x, "shrink(-1, 0)", () -> x.shrink(-1, 0), RentSizes.UNKNOWN);
        for (int less : new int[] {0, -1, 10, 11, Integer.MAX_VALUE, Integer.MIN_VALUE}) {
            Check.refused(x, "shrink(0, " + less + ")", () -> x.shrink(0, less), RentSizes.OUTSIDE);
            Check.refused(x, "wouldGive(0, " + less + ", 0)", () -> x.wouldGive(0, less, 0), RentSizes.OUTSIDE);
        }
        Check.due("shrink(0, 9)", x.shrink(0, 9), 90);
        x.tick(2);
        Check.refused(x, "shrink an archived one", () -> x.shrink(0, 0), RentSizes.STATE);
        Check.refused(x, "wouldGive of an archived one", () -> x.wouldGive(0, 0, 0), RentSizes.STATE);
        x.drop(0);
        Check.refused(x, "shrink one that is gone", () -> x.shrink(0, 5), RentSizes.STATE);
        Check.refused(x, "wouldGive of one that is gone", () -> x.wouldGive(0, 5, 0), RentSizes.STATE);
    }

    private static void dropGivesAll() {
        RentSizes x = layered();
        int[] coins = {x.coins(0, 0), x.coins(0, 1)};
        Check.due("drop a live one", x.drop(0), 312);
        Check.due("coins(0, 0)", x.coins(0, 0), coins[0] + 252);
        Check.due("coins(0, 1)", x.coins(0, 1), coins[1] + 60);
        Check.due("told(5)", x.told(5), 0);
        Check.due("told(2)", x.told(2), 0);
        Check.due("layer(0, 0, 0)", x.layer(0, 0, 0), RentSizes.NONE);
        Check.refused(x, "drop again", () -> x.drop(0), RentSizes.STATE);
        Check.refused(x, "drop(1)", () -> x.drop(1), RentSizes.UNKNOWN);
        Check.refused(x, "drop(-1)", () -> x.drop(-1), RentSizes.UNKNOWN);
        x.make(3, 4, 10, 1);
        x.tick(2);
        Check.due("told(3)", x.told(3), 1);
        Check.due("drop an archived one", x.drop(1), 40);
        Check.due("told(3)", x.told(3), 0);
    }

    private static void layerTells() {
        RentSizes x = new RentSizes();
        x.make(3, 0, 10, 1);
        Check.due("layer(1, 0, 3)", x.layer(1, 0, 3), RentSizes.UNKNOWN);
        Check.due("layer(-1, 0, 0)", x.layer(-1, 0, 0), RentSizes.UNKNOWN);
        Check.due("layer(0, 9, 3)", x.layer(0, 9, 3), RentSizes.OUTSIDE);
        Check.due("layer(0, 0, -1)", x.layer(0, 0, -1), RentSizes.OUTSIDE);
        for (int k : new int[] {-1, 1, 16, Integer.MAX_VALUE, Integer.MIN_VALUE}) {
            Check.due("layer(0, " + k + ", 0)", x.layer(0, k, 0), RentSizes.NONE);
        }
        x.tick(2);
        layers(x, "archived", new int[][] {{10, 10, 3}});
    }

    private static void wouldGiveRefuses() {
        RentSizes x = new RentSizes();
        x.make(3, 0, 10, 1);
        Check.due("wouldGive(1, 0, 0)", x.wouldGive(1, 0, 0), RentSizes.UNKNOWN);
        Check.due("wouldGive(0, 1, 6)", x.wouldGive(0, 1, 6), RentSizes.UNKNOWN);
        Check.due("wouldGive(0, 0, -1)", x.wouldGive(0, 0, -1), RentSizes.UNKNOWN);
        Check.refused(x, "wouldGive(0, 9, 3)", () -> x.wouldGive(0, 9, 3), 90);
        x.tick(2);
        Check.due("archived: wouldGive(0, 1, 6)", x.wouldGive(0, 1, 6), RentSizes.UNKNOWN);
    }
}
