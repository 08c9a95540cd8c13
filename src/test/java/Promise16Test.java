/** Promise 16: object. */
public final class Promise16Test {
    private static final int MIN = Integer.MIN_VALUE;
    private static final int MAX = Integer.MAX_VALUE;

    public static void main(String[] args) {
        live();
        archived();
        gone();
        chargedNow();
        unknown();
        outside();
        Check.done();
    }

    /** Object 0 of owner 3: 5 bytes from account 1, 2 from account 2, paid up to HEIGHT 2. */
    private static Run oneOfTwoLayers() {
        Run x = new Run();
        x.make(1, 3, 5, 2);
        x.grow(0, 2, 2);
        return x;
    }

    private static void live() {
        Check.sentence("OWNER (what = 0), SIZE (1), up to which HEIGHT it is PAID (2), 0 LIVE (3), LAYERS (4), what is HELD for it (5), CHARGED size now (6)");
        Run x = oneOfTwoLayers();
        int[] due = {3, 7, 2, 0, 2, 70, 8};
        for (int what = 0; what <= 6; what++) {
            x.object(0, what).isAndChangesNothing(due[what]);
        }
        x.grow(0, 2, 2);
        x.objectIs(0, 3, 9, 2, 0, 2, 90, 9);
    }

    private static void archived() {
        Check.sentence("1 ARCHIVED");
        Run x = oneOfTwoLayers();
        x.tick(2);
        x.objectIs(0, 3, 7, 2, 0, 2, 70, 8);
        x.tick(1);
        x.objectIs(0, 3, 7, 2, 1, 2, 70, 8);
    }

    private static void gone() {
        Check.sentence("SIZE (1; 0 when GONE), 2 GONE (3), LAYERS (4; 0 when GONE), CHARGED size now (6; 0 when GONE)");
        Run x = oneOfTwoLayers();
        x.drop(0);
        x.objectIs(0, 3, 0, 2, 2, 0, 0, 0);
        Run y = oneOfTwoLayers();
        y.tick(3);
        y.drop(0);
        y.objectIs(0, 3, 0, 2, 2, 0, 0, 0);
        y.tick(100);
        y.objectIs(0, 3, 0, 2, 2, 0, 0, 0);
    }

    private static void chargedNow() {
        Check.sentence("CHARGED size now (6)");
        Run x = oneOfTwoLayers();
        x.edition(5, 10, 1, 64);
        x.edition(6, 10, 1, 7);
        x.edition(7, 10, 1, 6);
        x.tick(4);
        int[] due = {8, 64, 7, 7};
        for (int charged : due) {
            x.object(0, 6).is(charged);
            x.tick(1);
        }
    }

    private static void unknown() {
        Check.sentence("UNKNOWN");
        Run x = oneOfTwoLayers();
        for (int object : new int[] {-1, 1, 60, MIN, MAX}) {
            x.object(object, 0).unknown();
            x.object(object, 7).unknown();
            x.object(object, -1).unknown();
        }
    }

    private static void outside() {
        Check.sentence("OUTSIDE");
        Run x = oneOfTwoLayers();
        for (int what : new int[] {-1, 7, MIN, MAX}) {
            x.object(0, what).outside();
        }
        x.drop(0);
        x.object(0, 7).outside();
        x.object(0, 6).is(0);
    }
}
