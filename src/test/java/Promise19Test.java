/** Promise 19: wouldGive. */
public final class Promise19Test {
    private static final int MIN = Integer.MIN_VALUE;
    private static final int MAX = Integer.MAX_VALUE;

    public static void main(String[] args) {
        toAnAccountAlone();
        asShrinkGives();
        unknown();
        outside();
        state();
        order();
        Check.done();
    }

    /** Object 0 of owner 2: 10 bytes from account 0 at 10, 6 from 1 at 10, 8 from 0 at 4. */
    private static Run threeLayers() {
        Run x = new Run();
        x.edition(5, 4, 1, 8);
        x.make(0, 2, 10, 50);
        x.grow(0, 1, 6);
        x.tick(5);
        x.grow(0, 0, 8);
        return x;
    }

    private static void toAnAccountAlone() {
        Check.sentence("What shrink() by so much would give back to an ACCOUNT alone");
        int[][] due = {{1, 4, 0}, {8, 32, 0}, {9, 32, 10}, {14, 32, 60}, {15, 42, 60}, {23, 122, 60}};
        Run x = threeLayers();
        for (int[] row : due) {
            x.wouldGive(0, row[0], 0).isAndChangesNothing(row[1]);
            x.wouldGive(0, row[0], 1).isAndChangesNothing(row[2]);
            x.wouldGive(0, row[0], 2).isAndChangesNothing(0);
            x.wouldGive(0, row[0], 5).isAndChangesNothing(0);
        }
    }

    private static void asShrinkGives() {
        Check.sentence("What shrink() by so much would give back");
        for (int less = 1; less <= 23; less++) {
            Run x = threeLayers();
            int all = 0;
            int[] due = new int[6];
            for (int account = 0; account < 6; account++) {
                int given = (int) x.wouldGive(0, less, account).value();
                all += given;
                due[account] = given + (int) x.coins(0, account).value();
            }
            x.shrink(0, less).is(all);
            x.accountsAre(due);
        }
    }

    private static void unknown() {
        Check.sentence("UNKNOWN");
        Run x = threeLayers();
        for (int object : new int[] {-1, 1, 60, MIN, MAX}) {
            x.wouldGive(object, 1, 0).unknown();
        }
        for (int account : new int[] {-1, 6, MIN, MAX}) {
            x.wouldGive(0, 1, account).unknown();
        }
        x.wouldGive(0, 1, 5).is(0);
        x.wouldGive(0, 1, 0).is(4);
    }

    private static void outside() {
        Check.sentence("OUTSIDE");
        Run x = threeLayers();
        for (int less : new int[] {0, -1, 24, 25, MIN, MAX}) {
            x.wouldGive(0, less, 0).outside();
        }
        x.wouldGive(0, 1, 0).is(4);
        x.wouldGive(0, 23, 0).is(122);
        Run y = new Run();
        y.make(0, 0, 1, 1);
        y.wouldGive(0, 1, 0).outside();
    }

    private static void state() {
        Check.sentence("STATE: as of shrink()");
        Run x = new Run();
        x.make(0, 0, 10, 1);
        x.make(0, 0, 10, 1);
        x.drop(1);
        x.wouldGive(1, 1, 0).state();
        x.tick(1);
        x.wouldGive(0, 1, 0).is(10);
        x.tick(1);
        x.wouldGive(0, 1, 0).state();
    }

    private static void order() {
        Check.sentence("UNKNOWN; OUTSIDE; STATE: as of shrink(), where STATE is ahead");
        Run x = new Run();
        x.make(0, 0, 10, 1);
        x.make(0, 0, 10, 1);
        x.wouldGive(2, 0, 0).unknown();
        x.wouldGive(0, 0, 6).unknown();
        x.wouldGive(0, 10, -1).unknown();
        x.drop(1);
        x.tick(2);
        for (int object = 0; object < 2; object++) {
            x.wouldGive(object, 1, 6).unknown();
            x.wouldGive(object, 0, -1).unknown();
            x.wouldGive(object, 0, 0).state();
            x.wouldGive(object, 10, 0).state();
            x.wouldGive(object, MAX, 0).state();
        }
    }
}
