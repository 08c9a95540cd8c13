/** Promises 2 (edition) and 3 (priceAt). */
public final class EditionTest {
    public static void main(String[] args) {
        holds();
        outside();
        ahead();
        room();
        pricesOfTheDay();
        Check.done();
    }

    private static void row(RentSizes x, int height, int price, int rent, int least, int from) {
        Check.due("priceAt(" + height + ", 0)", x.priceAt(height, 0), price);
        Check.due("priceAt(" + height + ", 1)", x.priceAt(height, 1), rent);
        Check.due("priceAt(" + height + ", 2)", x.priceAt(height, 2), least);
        Check.due("priceAt(" + height + ", 3)", x.priceAt(height, 3), from);
    }

    private static void holds() {
        RentSizes x = new RentSizes();
        row(x, 0, 10, 1, 8, 0);
        row(x, 100000, 10, 1, 8, 0);
        Check.due("edition(7, 0, 0, 1)", x.edition(7, 0, 0, 1), 2);
        Check.due("edition(8, 100, 20, 64)", x.edition(8, 100, 20, 64), 3);
        Check.due("edition(100000, 5, 6, 7)", x.edition(100000, 5, 6, 7), 4);
        Check.due("told(8)", x.told(8), 4);
        row(x, 6, 10, 1, 8, 0);
        row(x, 7, 0, 0, 1, 7);
        row(x, 8, 100, 20, 64, 8);
        row(x, 99999, 100, 20, 64, 8);
        row(x, 100000, 5, 6, 7, 100000);
        x.tick(50);
        row(x, 0, 10, 1, 8, 0);
        for (int what : new int[] {-1, 4, Integer.MAX_VALUE}) {
            Check.due("priceAt(0, " + what + ")", x.priceAt(0, what), RentSizes.OUTSIDE);
        }
        for (int height : new int[] {-1, 100001, Integer.MIN_VALUE, Integer.MAX_VALUE}) {
            Check.due("priceAt(" + height + ", 0)", x.priceAt(height, 0), RentSizes.OUTSIDE);
        }
    }

    private static void outside() {
        int[][] wrong = {
            {-1, 1, 1, 1}, {100001, 1, 1, 1}, {9, -1, 1, 1}, {9, 101, 1, 1}, {9, 1, -1, 1}, {9, 1, 21, 1}, {9, 1, 1, 0}, {9, 1, 1, 65},
            {Integer.MAX_VALUE, 1, 1, 1}, {Integer.MIN_VALUE, 1, 1, 1}, {0, 101, 1, 1},
        };
        for (int[] w : wrong) {
            RentSizes x = new RentSizes();
            Check.refused(x, "edition" + java.util.Arrays.toString(w), () -> x.edition(w[0], w[1], w[2], w[3]), RentSizes.OUTSIDE);
        }
    }

    private static void ahead() {
        RentSizes x = new RentSizes();
        x.tick(3);
        Check.refused(x, "edition(0, ..)", () -> x.edition(0, 1, 1, 1), RentSizes.STATE);
        Check.refused(x, "edition(7, ..) at 3", () -> x.edition(7, 1, 1, 1), RentSizes.STATE);
        Check.due("edition(8, ..) at 3", x.edition(8, 1, 1, 1), 2);
        Check.refused(x, "edition(8, ..) again", () -> x.edition(8, 2, 2, 2), RentSizes.STATE);
        Check.due("edition(9, ..)", x.edition(9, 2, 2, 2), 3);
        Check.refused(x, "edition(8, ..) behind 9", () -> x.edition(8, 2, 2, 2), RentSizes.STATE);
    }

    private static void room() {
        RentSizes x = new RentSizes();
        for (int i = 1; i <= 9; i++) {
            Check.due("edition " + i, x.edition(10 * i, i, i, i), i + 1);
        }
        Check.refused(x, "a tenth further edition", () -> x.edition(100, 1, 1, 1), RentSizes.ROOM);
        Check.refused(x, "a tenth one, not behind", () -> x.edition(90, 1, 1, 1), RentSizes.STATE);
        Check.refused(x, "a tenth one, outside", () -> x.edition(90, 1, 1, 0), RentSizes.OUTSIDE);
        row(x, 95, 9, 9, 9, 90);
    }

    private static void pricesOfTheDay() {
        RentSizes x = new RentSizes();
        x.edition(5, 3, 2, 20);
        x.make(0, 0, 10, 50);
        Check.due("charged at 0", x.object(0, 6), 10);
        x.tick(4);
        Check.due("pay at 4", x.pay(0, 1, 1), 10);
        x.tick(1);
        Check.due("charged at 5", x.object(0, 6), 20);
        Check.due("pay at 5", x.pay(0, 1, 1), 40);
        Check.due("grow at 5, below LEAST", x.grow(0, 2, 10), 30);
        Check.due("grow at 5, above LEAST", x.grow(0, 2, 1), 3 + 2 * (52 - 5));
        Check.due("layer(0, 0, 1)", x.layer(0, 0, 1), 10);
        Check.due("layer(0, 1, 1)", x.layer(0, 1, 1), 3);
    }
}
