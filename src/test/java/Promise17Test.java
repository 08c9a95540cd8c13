/** Promise 17: layer. */
public final class Promise17Test {
    private static final int MIN = Integer.MIN_VALUE;
    private static final int MAX = Integer.MAX_VALUE;

    public static void main(String[] args) {
        theOldestFirst();
        unknown();
        outsideWhat();
        noneSuch();
        order();
        Check.done();
    }

    /** Object 0: 10 bytes from 3 at 10, 4 from 5 at 10, 2 from 5 at 7. */
    private static Run threeLayers() {
        Run x = new Run();
        x.edition(5, 7, 1, 8);
        x.make(3, 0, 10, 5);
        x.grow(0, 5, 4);
        x.tick(5);
        x.grow(0, 5, 2);
        return x;
    }

    private static void theOldestFirst() {
        Check.sentence("Of LAYER k of an OBJECT, the oldest first: bytes (what = 0), PRICE (1), from whom (2)");
        Run x = threeLayers();
        int[][] due = {{10, 10, 3}, {4, 10, 5}, {2, 7, 5}};
        for (int k = 0; k < 3; k++) {
            for (int what = 0; what < 3; what++) {
                x.layer(0, k, what).isAndChangesNothing(due[k][what]);
            }
        }
        x.tick(1).is(1);
        x.layersAre(0, due);
    }

    private static void unknown() {
        Check.sentence("UNKNOWN");
        Run x = threeLayers();
        for (int object : new int[] {-1, 1, 60, MIN, MAX}) {
            x.layer(object, 0, 0).unknown();
        }
        x.layer(0, 0, 0).is(10);
    }

    private static void outsideWhat() {
        Check.sentence("OUTSIDE: what");
        Run x = threeLayers();
        for (int what : new int[] {-1, 3, MIN, MAX}) {
            x.layer(0, 0, what).outside();
            x.layer(0, 2, what).outside();
        }
        x.layer(0, 0, 2).is(3);
    }

    private static void noneSuch() {
        Check.sentence("NONE: there is none such");
        Run x = threeLayers();
        for (int k : new int[] {-1, 3, 15, 16, MIN, MAX}) {
            for (int what = 0; what < 3; what++) {
                x.layer(0, k, what).none();
            }
        }
        x.layer(0, 2, 0).is(2);
        x.shrink(0, 2);
        x.layer(0, 2, 0).none();
        x.layer(0, 1, 0).is(4);
        x.drop(0);
        x.layer(0, 0, 0).none();
    }

    private static void order() {
        Check.sentence("UNKNOWN; OUTSIDE ..; NONE ..: the first that fits");
        Run x = threeLayers();
        x.layer(1, 3, 3).unknown();
        x.layer(-1, -1, -1).unknown();
        x.layer(0, 3, 3).outside();
        x.layer(0, -1, -1).outside();
        x.layer(0, 3, 2).none();
        x.drop(0);
        x.layer(0, 0, 3).outside();
        x.layer(0, 0, 2).none();
    }
}
