/** Promises 4 (cap), 5 (make) and 16 (object). */
public final class MakeTest {
    public static void main(String[] args) {
        ordinary();
        wrongInputs();
        caps();
        capOfAll();
        lacks();
        room();
        objectTells();
        Check.done();
    }

    private static void ordinary() {
        RentSizes x = new RentSizes();
        Check.due("make(2, 4, 1, 1)", x.make(2, 4, 1, 1), 0);
        Check.due("coins(0, 2)", x.coins(0, 2), 100000 - 10 - 8);
        Check.due("coins(0, 4)", x.coins(0, 4), 100000);
        x.tick(1);
        Check.due("make(2, 5, 100, 100)", x.make(2, 5, 100, 100), 1);
        Check.due("object(1, 2)", x.object(1, 2), 101);
        Check.due("coins(0, 2)", x.coins(0, 2), 100000 - 18 - 1000 - 10000);
        Check.due("told(5)", x.told(5), 1010);
        Check.due("told(6)", x.told(6), 10008);
        for (int k = 0; k < 4; k++) {
            Check.due("word(1, " + k + ")", x.word(1, k), 0);
        }
    }

    private static void wrongInputs() {
        int[][] unknown = {{-1, 0, 1, 1}, {6, 0, 1, 1}, {0, -1, 1, 1}, {0, 6, 1, 1}, {0, 6, 0, 0}, {Integer.MIN_VALUE, 0, 1, 1}};
        int[][] outside = {{0, 0, 0, 1}, {0, 0, 1001, 1}, {0, 0, -5, 1}, {0, 0, 1, 0}, {0, 0, 1, 101}, {0, 0, Integer.MAX_VALUE, 1}, {0, 0, 1, Integer.MIN_VALUE}};
        RentSizes x = new RentSizes();
        for (int[] w : unknown) {
            Check.refused(x, "make" + java.util.Arrays.toString(w), () -> x.make(w[0], w[1], w[2], w[3]), RentSizes.UNKNOWN);
        }
        for (int[] w : outside) {
            Check.refused(x, "make" + java.util.Arrays.toString(w), () -> x.make(w[0], w[1], w[2], w[3]), RentSizes.OUTSIDE);
        }
    }

    private static void caps() {
        RentSizes x = new RentSizes();
        Check.due("cap(1, 100)", x.cap(1, 100), 1000);
        Check.due("cap(1, 50)", x.cap(1, 50), 100);
        Check.refused(x, "cap(1, 5001)", () -> x.cap(1, 5001), RentSizes.OUTSIDE);
        Check.refused(x, "cap(1, -1)", () -> x.cap(1, -1), RentSizes.OUTSIDE);
        Check.refused(x, "cap(6, 5001)", () -> x.cap(6, 5001), RentSizes.UNKNOWN);
        Check.refused(x, "cap(-1, 1)", () -> x.cap(-1, 1), RentSizes.UNKNOWN);
        Check.refused(x, "make of 51", () -> x.make(0, 1, 51, 1), RentSizes.CAPPED);
        Check.due("make of 30", x.make(0, 1, 30, 5), 0);
        Check.refused(x, "make of 21 more", () -> x.make(0, 1, 21, 1), RentSizes.CAPPED);
        Check.due("make of 20 more", x.make(0, 1, 20, 1), 1);
        Check.due("another owner", x.make(0, 2, 1000, 1), 2);
        Check.refused(x, "grow at the cap", () -> x.grow(0, 1, 1), RentSizes.CAPPED);
        Check.due("cap(1, 0)", x.cap(1, 0), 50);
        Check.due("what is LIVE stays so", x.object(0, 3), 0);
        Check.due("cap(1, 5000)", x.cap(1, 5000), 0);
        x.tick(2);
        Check.due("archived", x.object(1, 3), 1);
        x.cap(1, 31);
        Check.due("archived sizes do not count", x.grow(0, 1, 1), 10 + 3);
    }

    private static void capOfAll() {
        RentSizes x = new RentSizes();
        for (int a = 0; a < 5; a++) {
            x.cap(a, 5000);
            x.make(a, 0, 999, 1);
        }
        Check.due("told(4)", x.told(4), 4995);
        Check.refused(x, "make of 6", () -> x.make(5, 5, 6, 1), RentSizes.CAPPED);
        Check.due("make of 4", x.make(5, 5, 4, 1), 5);
        Check.due("grow by 1", x.grow(5, 5, 1), 10);
        Check.due("told(4)", x.told(4), 5000);
        Check.refused(x, "grow by 1", () -> x.grow(5, 5, 1), RentSizes.CAPPED);
        x.shrink(0, 1);
        Check.due("make of 1", x.make(5, 5, 1, 1), 6);
    }

    private static void lacks() {
        RentSizes x = new RentSizes();
        Check.refused(x, "dearer than all coins", () -> x.make(0, 0, 910, 100), RentSizes.LACKS);
        Check.due("all coins but 10", x.make(0, 0, 909, 100), 0);
        Check.due("coins(0, 0)", x.coins(0, 0), 10);
        Check.refused(x, "a byte more", () -> x.make(0, 1, 1, 1), RentSizes.LACKS);
        Check.refused(x, "capped and lacking", () -> x.make(0, 0, 92, 1), RentSizes.CAPPED);
        RentSizes y = new RentSizes();
        y.make(1, 1, 100, 82);
        y.make(1, 1, 100, 100);
        y.make(1, 1, 700, 100);
        Check.due("coins(0, 1)", y.coins(0, 1), 100000 - 9200 - 11000 - 77000);
        Check.due("just enough", y.make(1, 0, 140, 10), 3);
        Check.due("coins(0, 1)", y.coins(0, 1), 0);
    }

    private static void room() {
        RentSizes x = new RentSizes();
        x.make(0, 0, 909, 100);
        for (int i = 1; i < 60; i++) {
            Check.due("make " + i, x.make(1, 1, 1, 1), i);
        }
        Check.refused(x, "a 61st object", () -> x.make(1, 1, 1, 1), RentSizes.ROOM);
        Check.refused(x, "a 61st one, lacking", () -> x.make(0, 1, 1, 1), RentSizes.LACKS);
        x.drop(5);
        Check.refused(x, "a 61st one after a drop", () -> x.make(1, 1, 1, 1), RentSizes.ROOM);
        Check.due("told(1)", x.told(1), 60);
        Check.due("clear()", x.clear(), 60);
        Check.due("make after clear()", x.make(1, 1, 1, 1), 0);
    }

    private static void objectTells() {
        RentSizes x = new RentSizes();
        x.make(1, 3, 5, 2);
        x.grow(0, 2, 2);
        tells(x, "LIVE", new int[] {3, 7, 2, 0, 2, 70, 8});
        x.tick(3);
        tells(x, "ARCHIVED", new int[] {3, 7, 2, 1, 2, 70, 8});
        x.drop(0);
        tells(x, "GONE", new int[] {3, 0, 2, 2, 0, 0, 0});
        Check.due("object(0, -1)", x.object(0, -1), RentSizes.OUTSIDE);
        Check.due("object(0, 7)", x.object(0, 7), RentSizes.OUTSIDE);
        Check.due("object(1, 7)", x.object(1, 7), RentSizes.UNKNOWN);
        Check.due("object(-1, 0)", x.object(-1, 0), RentSizes.UNKNOWN);
        Check.due("object(60, 0)", x.object(60, 0), RentSizes.UNKNOWN);
    }

    private static void tells(RentSizes x, String when, int[] due) {
        for (int what = 0; what < due.length; what++) {
            Check.due(when + ": object(0, " + what + ")", x.object(0, what), due[what]);
        }
    }
}
