/** Promise 3: priceAt. */
public final class Promise03Test {
    public static void main(String[] args) {
        whatItTells();
        atAHeight();
        outsideHeight();
        outsideWhat();
        Check.done();
    }

    private static Run twoFurther() {
        Run x = new Run();
        x.edition(7, 0, 20, 1);
        x.edition(8, 100, 0, 64);
        return x;
    }

    private static void row(Run x, int height, int... due) {
        for (int what = 0; what < 4; what++) {
            x.priceAt(height, what).isAndChangesNothing(due[what]);
        }
    }

    private static void whatItTells() {
        Check.sentence("PRICE (what = 0), RENT (1), LEAST (2), from which HEIGHT on (3)");
        Run x = twoFurther();
        row(x, 6, 10, 1, 8, 0);
        row(x, 7, 0, 20, 1, 7);
        row(x, 8, 100, 0, 64, 8);
        x.tick(100);
        row(x, 6, 10, 1, 8, 0);
        row(x, 7, 0, 20, 1, 7);
        row(x, 100, 100, 0, 64, 8);
    }

    private static void atAHeight() {
        Check.sentence("at a HEIGHT (0 to 100000)");
        Run x = twoFurther();
        row(x, 0, 10, 1, 8, 0);
        row(x, 100000, 100, 0, 64, 8);
    }

    private static void outsideHeight() {
        Check.sentence("OUTSIDE: the HEIGHT");
        Run x = twoFurther();
        for (int height : new int[] {-1, 100001, Integer.MIN_VALUE, Integer.MAX_VALUE}) {
            for (int what = 0; what < 4; what++) {
                x.priceAt(height, what).outside();
            }
        }
    }

    private static void outsideWhat() {
        Check.sentence("OUTSIDE: what");
        Run x = twoFurther();
        for (int what : new int[] {-1, 4, Integer.MIN_VALUE, Integer.MAX_VALUE}) {
            x.priceAt(0, what).outside();
            x.priceAt(100000, what).outside();
            x.priceAt(-1, what).outside();
        }
    }
}
