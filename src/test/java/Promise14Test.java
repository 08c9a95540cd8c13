/** Promise 14: weight. */
public final class Promise14Test {
    public static void main(String[] args) {
        whatItWas();
        bounds();
        unknown();
        sharedByIt();
        Check.done();
    }

    private static void whatItWas() {
        Check.sentence("The WEIGHT of a NODE ..: what it was");
        Run x = new Run();
        for (int node = 0; node < 5; node++) {
            x.weight(node, 10 + node).is(0);
        }
        for (int node = 0; node < 5; node++) {
            x.weight(node, 3).is(10 + node);
            x.weight(node, 3).is(3);
        }
    }

    private static void bounds() {
        Check.sentence("(0 to 1000)");
        Run x = new Run();
        for (int w : new int[] {-1, 1001, Integer.MIN_VALUE, Integer.MAX_VALUE}) {
            x.weight(0, w).outside();
        }
        x.weight(0, 1000).is(0);
        x.weight(0, 1001).outside();
        x.weight(0, 0).is(1000);
        x.weight(0, 1).is(0);
    }

    private static void unknown() {
        Check.sentence("UNKNOWN; OUTSIDE");
        Run x = new Run();
        for (int node : new int[] {-1, 5, Integer.MIN_VALUE, Integer.MAX_VALUE}) {
            x.weight(node, 1).unknown();
            x.weight(node, -1).unknown();
            x.weight(node, 1001).unknown();
        }
        x.weight(4, 1001).outside();
        x.weight(4, 1000).is(0);
    }

    private static void sharedByIt() {
        Check.sentence("THE POOL is shared, if some WEIGHT is above 0");
        Run x = new Run();
        x.make(0, 0, 10, 10);
        x.weight(2, 1);
        x.weight(4, 1000);
        x.weight(4, 1);
        x.nodesAre(0, 0, 0, 0, 0);
        x.tick(1);
        x.nodesAre(0, 0, 50, 0, 50);
    }
}
