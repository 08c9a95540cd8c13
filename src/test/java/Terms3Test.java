/** The terms' ==== 3: A TICK, the archive, the shares of THE POOL, BACK. */
public final class Terms3Test {
    public static void main(String[] args) {
        oneMore();
        archived();
        onlyLiveOnesAreArchived();
        sharedIfSomeWeight();
        cutShares();
        whatIsLeft();
        nodesWithoutWeight();
        greatestPool();
        tellsNoWords();
        depositsStayHeld();
        proof();
        backForHeights();
        backForThoseSince();
        byTheEditionThatHoldsNow();
        liveAgain();
        Check.done();
    }

    private static void oneMore() {
        Check.sentence("A TICK: HEIGHT is one more");
        Run x = new Run();
        x.tick(1);
        x.told(0).is(1);
        x.tick(1);
        x.told(0).is(2);
        x.tick(5);
        x.told(0).is(7);
    }

    private static void archived() {
        Check.sentence("Then LIVE OBJECTS that are PAID only up to a lesser HEIGHT are ARCHIVED");
        Run x = new Run();
        x.make(0, 0, 10, 1);
        x.make(0, 0, 10, 2);
        x.make(0, 0, 10, 3);
        x.tick(1).is(0);
        x.object(0, 3).is(0);
        x.tick(1).is(1);
        x.object(0, 3).is(1);
        x.object(1, 3).is(0);
        x.tick(2).is(2);
        x.told(3).is(3);
        Run y = new Run();
        y.make(0, 0, 10, 1);
        y.pay(0, 0, 1);
        y.tick(2).is(0);
        y.pay(0, 0, 1);
        y.tick(1).is(0);
        y.tick(1).is(1);
    }

    private static void onlyLiveOnesAreArchived() {
        Check.sentence("Then LIVE OBJECTS .. are ARCHIVED");
        Run x = new Run();
        x.make(0, 0, 10, 1);
        x.make(0, 0, 10, 1);
        x.drop(1);
        x.tick(2).is(1);
        x.object(1, 3).is(2);
        x.tick(100).is(0);
        x.told(3).is(1);
        x.told(2).is(0);
    }

    private static void sharedIfSomeWeight() {
        Check.sentence("Then THE POOL is shared, if some WEIGHT is above 0");
        Run x = new Run();
        x.make(0, 0, 10, 10);
        x.tick(1);
        x.told(6).is(100);
        x.weight(3, 1);
        x.told(6).is(100);
        x.tick(1);
        x.told(6).is(0);
        x.nodesAre(0, 0, 0, 100, 0);
        x.weight(3, 0);
        x.pay(0, 0, 1);
        x.tick(3);
        x.told(6).is(10);
        x.told(9).is(100);
        x.weight(0, 1000);
        x.tick(3);
        x.nodesAre(10, 0, 0, 100, 0);
        x.told(9).is(110);
    }

    /** THE POOL comes to a number by a price of 0 and a RENT of 1 for LEAST 1; then it is shared once. */
    private static Run shared(int pool, int... weights) {
        Run x = new Run();
        x.edition(5, 0, 1, 1);
        x.tick(5);
        x.make(0, 0, pool, 1);
        x.told(6).is(pool);
        for (int node = 0; node < 5; node++) {
            x.weight(node, weights[node]);
        }
        x.tick(1);
        x.told(6).is(0);
        x.told(9).is(pool);
        return x;
    }

    private static void cutShares() {
        Check.sentence("each NODE gets THE POOL times its WEIGHT, divided by all WEIGHTS (cut)");
        shared(11, 1, 2, 3, 2, 3).nodesAre(1, 2, 3, 2, 3);
        shared(1000, 1, 1, 1, 1, 1).nodesAre(200, 200, 200, 200, 200);
        shared(100, 1, 3, 0, 3, 2).nodesAre(11, 34, 0, 33, 22);
        shared(1000, 1000, 1, 1000, 1, 1000).nodesAre(334, 0, 333, 0, 333);
        shared(7, 0, 0, 0, 0, 1).nodesAre(0, 0, 0, 0, 7);
        shared(999, 1000, 0, 0, 0, 0).nodesAre(999, 0, 0, 0, 0);
    }

    private static void whatIsLeft() {
        Check.sentence("what is left goes one by one to NODES with a WEIGHT above 0, the greatest first, of like ones by numbers, round and round");
        shared(1, 1, 2, 3, 2, 3).nodesAre(0, 0, 1, 0, 0);
        shared(2, 1, 2, 3, 2, 3).nodesAre(0, 0, 1, 0, 1);
        shared(3, 1, 2, 3, 2, 3).nodesAre(0, 1, 1, 0, 1);
        shared(4, 1, 2, 3, 2, 3).nodesAre(0, 0, 2, 0, 2);
        shared(10, 1, 2, 3, 2, 3).nodesAre(0, 2, 3, 2, 3);
        shared(1, 1, 1, 1, 1, 1).nodesAre(1, 0, 0, 0, 0);
        shared(4, 1, 1, 1, 1, 1).nodesAre(1, 1, 1, 1, 0);
        shared(5, 1, 1, 1, 1, 1).nodesAre(1, 1, 1, 1, 1);
        shared(9, 1, 1, 1, 1, 1).nodesAre(2, 2, 2, 2, 1);
        shared(4, 996, 997, 998, 999, 1000).nodesAre(0, 1, 1, 1, 1);
        shared(1, 1, 1, 1, 1, 2).nodesAre(0, 0, 0, 0, 1);
    }

    private static void nodesWithoutWeight() {
        Check.sentence("to NODES with a WEIGHT above 0");
        shared(1, 0, 0, 1, 0, 1).nodesAre(0, 0, 1, 0, 0);
        shared(3, 0, 1, 0, 1, 0).nodesAre(0, 2, 0, 1, 0);
        shared(1, 0, 0, 0, 0, 1).nodesAre(0, 0, 0, 0, 1);
        shared(5, 0, 1, 1, 1, 0).nodesAre(0, 2, 2, 1, 0);
    }

    /** All COINS there are come into THE POOL: 100000 of each account. */
    private static void greatestPool() {
        Check.sentence("THE POOL times its WEIGHT (all COINS, the greatest WEIGHTS)");
        Run x = new Run();
        x.edition(5, 0, 20, 1);
        x.tick(5);
        for (int account = 0; account < 6; account++) {
            x.make(account, 0, 1000, 5).is(account);
            x.drop(account).is(0);
            x.coins(0, account).is(0);
        }
        x.told(6).is(600000);
        for (int node = 0; node < 5; node++) {
            x.weight(node, node < 4 ? 1000 : 999);
        }
        x.tick(1);
        x.nodesAre(120025, 120024, 120024, 120024, 119903);
        x.told(7).is(600000);
        x.told(9).is(600000);
    }

    /** Object 0 of owner 1: 20 bytes, paid by 0 up to HEIGHT 2, with two WORDS; HEIGHT is as given. */
    private static Run archivedAt(int height) {
        Run x = new Run();
        x.make(0, 1, 20, 2);
        x.write(0, 1, -7);
        x.write(0, 3, 123456789);
        x.tick(height).is(1);
        return x;
    }

    private static int digestOf(Run x) {
        return (int) x.digest(0).value();
    }

    private static void tellsNoWords() {
        Check.sentence("An ARCHIVED one tells no WORDS");
        Run x = new Run();
        x.make(0, 1, 20, 2);
        x.write(0, 0, 5);
        x.tick(2);
        x.word(0, 0).is(5);
        x.tick(1);
        for (int k = 0; k < 4; k++) {
            x.word(0, k).state();
            x.write(0, k, 1).state();
        }
    }

    private static void depositsStayHeld() {
        Check.sentence("its DEPOSITS stay HELD");
        Run x = archivedAt(3);
        x.told(5).is(200);
        x.object(0, 5).is(200);
        x.layersAre(0, new int[] {20, 10, 0});
        x.coins(0, 0).is(100000 - 240);
        x.drop(0).is(200);
        x.told(5).is(0);
        x.coins(0, 0).is(100000 - 40);
    }

    private static void proof() {
        Check.sentence("It comes BACK, when its DIGEST is told (PROOF: it is another number)");
        Run x = archivedAt(3);
        int digest = digestOf(x);
        for (int other : new int[] {digest - 1, digest + 1, ~digest, -digest, digest ^ Integer.MIN_VALUE, 0, -109}) {
            x.back(0, 0, other, 1).proof();
        }
        x.back(0, 0, digest, 1).is(40);
    }

    private static void backForHeights() {
        Check.sentence("RENT is paid for 1 to 100 HEIGHTS");
        Run x = archivedAt(3);
        int digest = digestOf(x);
        x.back(0, 4, digest, 0).outside();
        x.back(0, 4, digest, 101).outside();
        x.back(0, 4, digest, 1).is(20 * (1 + 1));
        x.coins(0, 4).is(100000 - 40);
        Run y = archivedAt(3);
        y.back(0, 4, digest, 100).is(20 * (100 + 1));
        y.object(0, 2).is(103);
    }

    private static void backForThoseSince() {
        Check.sentence("and for those since the one up to which it was PAID");
        Run x = archivedAt(10);
        x.back(0, 4, digestOf(x), 5).is(20 * (5 + 8));
        Run y = archivedAt(100);
        y.back(0, 4, digestOf(y), 1).is(20 * (1 + 98));
        Run z = archivedAt(3);
        z.back(0, 4, digestOf(z), 1).is(40);
        z.tick(2).is(1);
        z.back(0, 4, digestOf(z), 1).is(40);
    }

    private static void byTheEditionThatHoldsNow() {
        Check.sentence("by the EDITION that holds now");
        for (int height : new int[] {5, 6}) {
            Run x = new Run();
            x.edition(6, 50, 3, 30);
            x.make(0, 1, 20, 2);
            x.tick(height);
            x.back(0, 0, digestOf(x), 1).is(height == 5 ? 20 * (1 + 3) : 30 * 3 * (1 + 4));
            x.object(0, 5).is(200);
        }
    }

    private static void liveAgain() {
        Check.sentence("it is LIVE, PAID up to HEIGHT and these");
        Run x = archivedAt(10);
        x.back(0, 4, digestOf(x), 5);
        x.objectIs(0, 1, 20, 15, 0, 1, 200, 20);
        x.told(2).is(1);
        x.told(3).is(0);
        x.told(4).is(20);
        x.word(0, 0).is(0);
        x.word(0, 1).is(-7);
        x.word(0, 2).is(0);
        x.word(0, 3).is(123456789);
        x.tick(5).is(0);
        x.tick(1).is(1);
    }
}
