/** Promise 2: edition. */
public final class Promise02Test {
    private static final int MIN = Integer.MIN_VALUE;
    private static final int MAX = Integer.MAX_VALUE;

    public static void main(String[] args) {
        howManyThereAre();
        fromAHeight();
        outside();
        notFiveAhead();
        notBehind();
        room();
        order();
        Check.done();
    }

    private static void howManyThereAre() {
        Check.sentence("AN EDITION from a HEIGHT .. on: how many there are");
        Run x = new Run();
        x.edition(5, 1, 1, 1).is(2);
        x.told(8).is(2);
        x.edition(6, 1, 1, 1).is(3);
        x.tick(50);
        x.edition(60, 1, 1, 1).is(4);
        x.told(8).is(4);
    }

    private static void fromAHeight() {
        Check.sentence("from a HEIGHT (to 100000) on");
        Run x = new Run();
        x.edition(100001, 1, 2, 3).outside();
        x.edition(99999, 1, 2, 3).is(2);
        x.edition(100000, 4, 5, 6).is(3);
        x.priceAt(99998, 3).is(0);
        x.priceAt(99999, 3).is(99999);
        x.priceAt(100000, 3).is(100000);
        x.edition(100001, 7, 8, 9).outside();
    }

    private static void outside() {
        Check.sentence("OUTSIDE");
        int[][] wrong = {
            {-1, 1, 1, 1}, {100001, 1, 1, 1}, {MIN, 1, 1, 1}, {MAX, 1, 1, 1},
            {9, -1, 1, 1}, {9, 101, 1, 1}, {9, MIN, 1, 1}, {9, MAX, 1, 1},
            {9, 1, -1, 1}, {9, 1, 21, 1}, {9, 1, MIN, 1}, {9, 1, MAX, 1},
            {9, 1, 1, 0}, {9, 1, 1, 65}, {9, 1, 1, -1}, {9, 1, 1, MIN}, {9, 1, 1, MAX},
        };
        Run x = new Run();
        for (int[] w : wrong) {
            x.edition(w[0], w[1], w[2], w[3]).outside();
        }
        x.edition(9, 0, 0, 1).is(2);
        x.edition(10, 100, 20, 64).is(3);
        x.priceAt(9, 0).is(0);
        x.priceAt(9, 1).is(0);
        x.priceAt(9, 2).is(1);
        x.priceAt(10, 0).is(100);
        x.priceAt(10, 1).is(20);
        x.priceAt(10, 2).is(64);
    }

    private static void notFiveAhead() {
        Check.sentence("STATE: it is not 5 HEIGHTS ahead");
        Run x = new Run();
        x.tick(3);
        x.edition(0, 1, 1, 1).state();
        x.edition(3, 1, 1, 1).state();
        x.edition(7, 1, 1, 1).state();
        x.edition(8, 1, 1, 1).is(2);
        x.tick(7);
        x.edition(14, 2, 2, 2).state();
        x.edition(15, 2, 2, 2).is(3);
    }

    private static void notBehind() {
        Check.sentence("STATE: .. or not behind the one told before");
        Run x = new Run();
        x.edition(20, 1, 1, 1).is(2);
        x.edition(19, 2, 2, 2).state();
        x.edition(20, 2, 2, 2).state();
        x.edition(21, 2, 2, 2).is(3);
        x.tick(16);
        x.edition(21, 3, 3, 3).state();
        x.edition(22, 3, 3, 3).is(4);
    }

    private static Run eightFurther() {
        Run x = new Run();
        for (int i = 1; i <= 8; i++) {
            x.edition(10 * i, i, i, i);
        }
        return x;
    }

    private static void room() {
        Check.sentence("ROOM");
        Run x = eightFurther();
        x.edition(90, 1, 1, 1).is(10);
        x.edition(91, 1, 1, 1).room();
        x.clear();
        x.edition(91, 1, 1, 1).is(2);
    }

    private static void order() {
        Check.sentence("OUTSIDE; STATE ..; ROOM: the first that fits");
        Run x = eightFurther();
        x.edition(90, 1, 1, 1);
        x.edition(4, 101, 1, 1).outside();
        x.edition(90, 1, 1, 0).outside();
        x.edition(-1, 1, 1, 1).outside();
        x.edition(4, 1, 1, 1).state();
        x.edition(90, 1, 1, 1).state();
        x.edition(91, 1, 21, 1).outside();
        x.edition(91, 1, 1, 1).room();
        Run y = new Run();
        y.edition(4, 1, 21, 1).outside();
        y.edition(4, 1, 20, 1).state();
    }
}
