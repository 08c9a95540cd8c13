/** How often an object is used, and the opening of the document's terms: accounts, nodes, coins and weights at first, refusals. */
public final class Terms0Test {
    private static final int[] NO_ACCOUNTS = {-1, 6, Integer.MIN_VALUE, Integer.MAX_VALUE};
    private static final int[] NO_NODES = {-1, 5, Integer.MIN_VALUE, Integer.MAX_VALUE};

    public static void main(String[] args) {
        lastCall();
        accounts();
        noSuchAccount();
        coinsAtFirst();
        nodes();
        weightsAtFirst();
        firstThatFits();
        noSuchObject();
        fewerCoins();
        nothingChanges();
        Check.done();
    }

    private static void lastCall() {
        Check.sentence("An object is used for at most 512 calls after it has been made");
        Run x = new Run();
        for (int i = 1; i <= 511; i++) {
            x.tick(100).is(0);
        }
        x.told(0).is(51100);
        Run y = new Run();
        for (int i = 1; i <= 512; i++) {
            y.cap(i % 6, i).is(i < 7 ? 1000 : i - 6);
        }
    }

    /** Object 0 is LIVE, paid up to 50, object 1 ARCHIVED since HEIGHT 2; both are of 10 bytes, owned and paid by 1. */
    private static Run oneLiveOneArchived() {
        Run x = new Run();
        x.make(1, 1, 10, 50);
        x.make(1, 1, 10, 1);
        x.tick(2).is(1);
        return x;
    }

    private static void accounts() {
        Check.sentence("ACCOUNTS 0 to 5");
        for (int account : new int[] {0, 5}) {
            Run x = oneLiveOneArchived();
            int digest = (int) x.digest(1).value();
            x.coins(0, account).is(100000);
            x.cap(account, 999).is(1000);
            x.grow(0, account, 1).is(10 + 48);
            x.pay(0, account, 1).is(11);
            x.wouldGive(0, 1, account).is(10);
            x.back(1, account, digest, 1).is(20);
            x.make(account, account, 10, 1).is(2);
        }
    }

    private static void noSuchAccount() {
        Check.sentence("UNKNOWN -101 (an ACCOUNT .. that there is not)");
        for (int account : NO_ACCOUNTS) {
            Run x = oneLiveOneArchived();
            int digest = (int) x.digest(1).value();
            x.coins(0, account).unknown();
            x.cap(account, 999).unknown();
            x.grow(0, account, 1).unknown();
            x.pay(0, account, 1).unknown();
            x.wouldGive(0, 1, account).unknown();
            x.back(1, account, digest, 1).unknown();
            x.make(account, 0, 10, 1).unknown();
            x.make(0, account, 10, 1).unknown();
        }
    }

    private static void coinsAtFirst() {
        Check.sentence("ACCOUNTS 0 to 5 have 100000 COINS each at first");
        for (int account = 0; account < 6; account++) {
            Run x = new Run();
            x.edition(5, 1, 0, 1);
            x.coins(0, account).is(100000);
            x.make(account, 0, 1000, 90).is(0);
            x.coins(0, account).is(0);
            x.tick(5);
            x.make(account, 1, 1, 1).lacks();
        }
    }

    private static void nodes() {
        Check.sentence("NODES 0 to 4 none");
        for (int node : new int[] {0, 1, 2, 3, 4}) {
            Run x = new Run();
            x.coins(1, node).is(0);
            x.weight(node, 1).is(0);
            x.make(0, 0, 10, 1);
            x.tick(1);
            x.coins(1, node).is(10);
        }
        Check.sentence("UNKNOWN -101 (a NODE that there is not)");
        for (int node : NO_NODES) {
            Run x = new Run();
            x.coins(1, node).unknown();
            x.weight(node, 1).unknown();
        }
    }

    private static void weightsAtFirst() {
        Check.sentence("NODES 0 to 4 .. and WEIGHTS 0");
        Run x = new Run();
        x.make(0, 0, 10, 10);
        x.tick(1);
        x.told(6).is(100);
        x.nodesAre(0, 0, 0, 0, 0);
        for (int node = 0; node < 5; node++) {
            x.weight(node, 7).is(0);
        }
    }

    /** Every refusal of make() fits at once; then they are taken away one by one, the first one first. */
    private static void firstThatFits() {
        Check.sentence("Calls answer, the first of these that fits");
        Run x = new Run();
        x.make(0, 0, 909, 100);
        for (int i = 1; i < 60; i++) {
            x.make(1, 1, 1, 1);
        }
        x.cap(1, 59);
        x.make(6, 1, 1001, 0).unknown();
        x.make(0, 1, 1001, 0).outside();
        x.make(0, 1, 1, 1).capped();
        x.cap(1, 60);
        x.make(0, 1, 1, 1).lacks();
        x.make(1, 1, 1, 1).room();
        x.told(1).is(60);
    }

    private static void noSuchObject() {
        Check.sentence("UNKNOWN -101 (an .. OBJECT that there is not)");
        int[] numbers = {-1, 2, 59, 60, Integer.MIN_VALUE, Integer.MAX_VALUE};
        for (int number : numbers) {
            Run x = oneLiveOneArchived();
            x.grow(number, 0, 1).unknown();
            x.shrink(number, 1).unknown();
            x.pay(number, 0, 1).unknown();
            x.write(number, 0, 1).unknown();
            x.drop(number).unknown();
            x.back(number, 0, 0, 1).unknown();
            x.object(number, 0).unknown();
            x.layer(number, 0, 0).unknown();
            x.word(number, 0).unknown();
            x.wouldGive(number, 1, 0).unknown();
            x.digest(number).none();
        }
        Run y = new Run();
        y.object(0, 0).unknown();
        y.make(0, 0, 1, 1).is(0);
        y.object(0, 0).is(0);
        y.object(1, 0).unknown();
    }

    /** Account 0 has 10 COINS left; each call costs 10 or 11 of them. */
    private static void fewerCoins() {
        Check.sentence("LACKS -106 (the payer has fewer COINS)");
        Run x = new Run();
        x.edition(5, 1, 1, 1);
        x.edition(12, 1, 0, 1);
        x.make(0, 0, 909, 100);
        x.make(1, 1, 1, 1);
        x.make(1, 2, 10, 50);
        x.make(1, 2, 11, 50);
        x.pay(3, 0, 1).lacks();
        x.tick(10);
        x.back(1, 0, (int) x.digest(1).value(), 2).lacks();
        x.tick(2);
        x.make(0, 1, 11, 1).lacks();
        x.grow(2, 0, 11).lacks();
        x.coins(0, 0).is(10);

        Run y = new Run();
        y.make(0, 0, 909, 100);
        y.make(1, 2, 10, 50);
        y.pay(1, 0, 1).is(10);
        y.coins(0, 0).is(0);

        Run z = new Run();
        z.edition(5, 1, 1, 1);
        z.make(0, 0, 909, 100);
        z.make(1, 1, 1, 1);
        z.tick(10);
        z.back(1, 0, (int) z.digest(1).value(), 1).is(10);
        z.coins(0, 0).is(0);

        for (boolean grown : new boolean[] {false, true}) {
            Run w = new Run();
            w.edition(5, 1, 0, 1);
            w.make(0, 0, 909, 100);
            w.make(1, 1, 10, 50);
            w.tick(5);
            if (grown) {
                w.grow(1, 0, 10).is(10);
            } else {
                w.make(0, 1, 10, 1).is(2);
            }
            w.coins(0, 0).is(0);
        }
    }

    /** The order of refusals of each other call stands in its promise's own test; each of them looks at all that stands. */
    private static void nothingChanges() {
        Check.sentence("then nothing changes");
        Run x = oneLiveOneArchived();
        x.weight(2, 3);
        x.write(0, 3, 9);
        x.edition(9, 8, 7, 6);
        x.cap(4, 5);
        x.make(0, 4, 6, 1).capped();
        x.make(0, 4, 5, 101).outside();
        x.make(0, 4, 5, 1).is(2);
    }
}
