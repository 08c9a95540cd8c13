/** Promise 15: coins. */
public final class Promise15Test {
    private static final int MIN = Integer.MIN_VALUE;
    private static final int MAX = Integer.MAX_VALUE;

    public static void main(String[] args) {
        tells();
        unknown();
        outsideKind();
        Check.done();
    }

    private static void tells() {
        Check.sentence("COINS of an ACCOUNT (kind 0), of a NODE (1)");
        Run x = new Run();
        for (int account = 0; account < 6; account++) {
            x.make(account, 0, 10 + account, 2);
        }
        for (int node = 0; node < 5; node++) {
            x.weight(node, 1 + node);
        }
        x.tick(1);
        for (int account = 0; account < 6; account++) {
            x.coins(0, account).isAndChangesNothing(100000 - 12 * (10 + account));
        }
        int[] due = {10, 20, 30, 40, 50};
        for (int node = 0; node < 5; node++) {
            x.coins(1, node).isAndChangesNothing(due[node]);
        }
    }

    private static void unknown() {
        Check.sentence("UNKNOWN");
        Run x = new Run();
        for (int who : new int[] {-1, 6, MIN, MAX}) {
            x.coins(0, who).unknown();
            x.coins(1, who).unknown();
        }
        x.coins(0, 5).is(100000);
        x.coins(1, 5).unknown();
        x.coins(1, 4).is(0);
    }

    private static void outsideKind() {
        Check.sentence("OUTSIDE: the kind");
        Run x = new Run();
        for (int kind : new int[] {-1, 2, MIN, MAX}) {
            x.coins(kind, 0).outside();
            x.coins(kind, 4).outside();
        }
    }
}
