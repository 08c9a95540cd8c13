/** The terms' ==== 2: MADE, GROWN, SHRUNK, PAID, HELD and THE POOL, CAPS, DIGEST. */
public final class Terms2Test {
    public static void main(String[] args) {
        madeTakes();
        madeForHeights();
        madeTogether();
        paidUpTo();
        grownTakesDeposit();
        grownTakesRent();
        heightsToCome();
        shrunkByLessThanItsSize();
        noRentComesBack();
        paidForMore();
        notBeyond();
        heldAndPool();
        capOfAllMade();
        capOfAllGrown();
        capOfAllBack();
        onlyLiveOnesCount();
        capOfAnOwnerAtFirst();
        capOfAnOwnerAsTold();
        digest();
        digestWraps();
        Check.done();
    }

    private static void madeTakes() {
        Check.sentence("MADE an OBJECT takes DEPOSIT (SIZE times PRICE) and RENT (CHARGED size times RENT times HEIGHTS)");
        Run x = new Run();
        x.edition(5, 7, 3, 20);
        x.make(2, 4, 7, 6);
        x.coins(0, 2).is(100000 - 70 - 48);
        x.make(3, 4, 9, 6);
        x.coins(0, 3).is(100000 - 90 - 54);
        x.tick(5);
        x.make(5, 4, 19, 10);
        x.coins(0, 5).is(100000 - 133 - 600);
        x.make(1, 4, 21, 10);
        x.coins(0, 1).is(100000 - 147 - 630);
        x.coins(0, 4).is(100000);
    }

    private static void madeForHeights() {
        Check.sentence("for 1 to 100 HEIGHTS");
        Run x = new Run();
        x.make(0, 0, 10, 0).outside();
        x.make(0, 0, 10, 101).outside();
        x.make(0, 0, 10, 1).is(0);
        x.make(1, 0, 10, 100).is(1);
        x.accountsAre(100000 - 110, 100000 - 1100);
    }

    /** Account 0 has 10 COINS left: enough for the DEPOSIT of 10, and for the RENT of 8, not for the two. */
    private static void madeTogether() {
        Check.sentence("together, from a payer");
        Run x = new Run();
        x.make(0, 0, 909, 100);
        x.make(0, 1, 1, 1).lacks();
        Run y = new Run();
        y.make(1, 0, 100, 82);
        y.make(1, 0, 800, 100);
        y.make(2, 0, 5, 1).is(2);
        y.coins(0, 1).is(100000 - 9200 - 88000);
        y.make(1, 1, 141, 10).lacks();
        y.make(1, 1, 140, 10).is(3);
        y.coins(0, 1).is(0);
    }

    private static void paidUpTo() {
        Check.sentence("it is PAID up to HEIGHT and these");
        Run x = new Run();
        x.make(0, 0, 10, 7);
        x.object(0, 2).is(7);
        x.tick(3);
        x.make(0, 0, 10, 100);
        x.object(1, 2).is(103);
        x.tick(4).is(0);
        x.tick(1).is(1);
    }

    private static void grownTakesDeposit() {
        Check.sentence("GROWN it takes DEPOSIT for what comes");
        Run x = new Run();
        x.edition(5, 3, 0, 1);
        x.make(0, 0, 100, 1);
        x.tick(1);
        x.grow(0, 4, 1).is(10);
        x.grow(0, 4, 899).is(8990);
        x.coins(0, 4).is(91000);
        x.told(5).is(10000);
        Run y = new Run();
        y.edition(5, 3, 0, 1);
        y.make(0, 0, 100, 50);
        y.tick(5);
        y.grow(0, 4, 7).is(21);
    }

    private static void grownTakesRent() {
        Check.sentence("and RENT for what CHARGED size is more");
        Run x = new Run();
        x.make(0, 0, 1, 10);
        x.grow(0, 1, 7).is(70);
        x.grow(0, 1, 1).is(10 + 10);
        x.grow(0, 1, 5).is(50 + 50);
        Run y = new Run();
        y.make(0, 0, 7, 10);
        y.grow(0, 1, 2).is(20 + 10);
        Run z = new Run();
        z.edition(5, 3, 2, 20);
        z.make(0, 0, 10, 50);
        z.tick(5);
        z.grow(0, 1, 10).is(30);
        z.grow(0, 1, 1).is(3 + 2 * 45);
    }

    private static void heightsToCome() {
        Check.sentence("for each HEIGHT up to which it is PAID that is to come");
        Run x = new Run();
        x.make(0, 0, 10, 3);
        x.grow(0, 1, 1).is(10 + 3);
        x.tick(2);
        x.grow(0, 1, 1).is(10 + 1);
        x.tick(1);
        x.grow(0, 1, 1).is(10);
        x.pay(0, 1, 100);
        x.grow(0, 1, 1).is(10 + 100);
    }

    private static void shrunkByLessThanItsSize() {
        Check.sentence("SHRUNK by less than its SIZE its bytes go");
        Run x = new Run();
        x.make(0, 0, 10, 1);
        x.shrink(0, 11).outside();
        x.shrink(0, 10).outside();
        x.shrink(0, 9).is(90);
        x.objectIs(0, 0, 1, 1, 0, 1, 10, 8);
        x.shrink(0, 1).outside();
    }

    private static void noRentComesBack() {
        Check.sentence("no RENT comes back");
        Run x = new Run();
        x.make(0, 0, 100, 50);
        x.shrink(0, 99).is(990);
        x.coins(0, 0).is(100000 - 10 - 5000);
        x.told(6).is(5000);
        x.object(0, 2).is(50);
        x.drop(0).is(10);
        x.told(6).is(5000);
    }

    private static void paidForMore() {
        Check.sentence("PAID for 1 to 100 more HEIGHTS: RENT for these");
        Run x = new Run();
        x.make(0, 0, 10, 1);
        x.pay(0, 3, 0).outside();
        x.pay(0, 3, 101).outside();
        x.pay(0, 3, 1).is(10);
        x.object(0, 2).is(2);
        x.pay(0, 3, 100).is(1000);
        x.object(0, 2).is(102);
        x.coins(0, 3).is(98990);
    }

    private static void notBeyond() {
        Check.sentence("not beyond HEIGHT and 400");
        Run x = new Run();
        x.make(0, 0, 10, 100);
        x.pay(0, 1, 100);
        x.pay(0, 1, 100);
        x.pay(0, 1, 99);
        x.pay(0, 1, 2).state();
        x.pay(0, 1, 1).is(10);
        x.object(0, 2).is(400);
        x.pay(0, 1, 1).state();
        x.tick(3);
        x.pay(0, 1, 4).state();
        x.pay(0, 1, 3).is(30);
        x.object(0, 2).is(403);
    }

    private static void heldAndPool() {
        Check.sentence("DEPOSITS are HELD, RENTS come into THE POOL");
        Run x = new Run();
        x.make(0, 0, 20, 2);
        x.told(5).is(200);
        x.told(6).is(40);
        x.grow(0, 1, 5);
        x.told(5).is(250);
        x.told(6).is(50);
        x.pay(0, 1, 1);
        x.told(5).is(250);
        x.told(6).is(75);
        x.tick(4);
        x.back(0, 1, (int) x.digest(0).value(), 1).is(50);
        x.told(5).is(250);
        x.told(6).is(125);
        x.object(0, 5).is(250);
        x.told(7).is(600000);
    }

    /** Owners 0 to 4 have an OBJECT each, number as owner, paid up to 50: 1000 bytes but the last of 4000 less than all. */
    private static Run liveOnes(int all) {
        Run x = new Run();
        for (int account = 0; account < 4; account++) {
            x.make(account, account, 1000, 50).is(account);
        }
        x.make(4, 4, all - 4000, 50).is(4);
        x.told(4).is(all);
        return x;
    }

    private static void capOfAllMade() {
        Check.sentence("CAPS: the SIZES of all LIVE OBJECTS are 5000 at most together (make)");
        Run x = liveOnes(5000);
        x.make(5, 5, 1, 1).capped();
        x.shrink(0, 1);
        x.make(5, 5, 2, 1).capped();
        x.make(5, 5, 1, 1).is(5);
        x.told(4).is(5000);
        Run y = liveOnes(4500);
        y.make(5, 5, 501, 1).capped();
        y.make(5, 5, 500, 1).is(5);
    }

    private static void capOfAllGrown() {
        Check.sentence("CAPS: the SIZES of all LIVE OBJECTS are 5000 at most together (grow)");
        Run x = liveOnes(4990);
        x.make(5, 5, 9, 1);
        x.grow(5, 5, 2).capped();
        x.grow(5, 5, 1).is(10 + 1);
        x.grow(5, 5, 1).capped();
        x.told(4).is(5000);
    }

    private static void capOfAllBack() {
        Check.sentence("CAPS: the SIZES of all LIVE OBJECTS are 5000 at most together (back)");
        Run x = liveOnes(4989);
        x.make(5, 5, 10, 1).is(5);
        x.tick(2).is(1);
        int digest = (int) x.digest(5).value();
        x.make(5, 5, 2, 50).is(6);
        x.back(5, 5, digest, 1).capped();
        x.shrink(6, 1);
        x.back(5, 5, digest, 1).is(20);
        x.told(4).is(5000);
    }

    private static void onlyLiveOnesCount() {
        Check.sentence("CAPS: the SIZES of all LIVE OBJECTS");
        Run x = new Run();
        for (int account = 0; account < 5; account++) {
            x.make(account, account, 1000, 1);
        }
        x.make(5, 5, 1000, 1).capped();
        x.drop(0);
        x.make(5, 0, 1000, 3).is(5);
        x.make(5, 5, 1, 1).capped();
        x.tick(2).is(4);
        x.told(4).is(1000);
        for (int account = 1; account < 5; account++) {
            x.make(account, account, 1000, 1).is(5 + account);
        }
        x.make(5, 5, 1, 1).capped();
    }

    private static void capOfAnOwnerAtFirst() {
        Check.sentence("of an OWNER as many as is told for it (1000 at first)");
        for (int owner = 0; owner < 6; owner++) {
            Run x = new Run();
            x.make(0, owner, 999, 1).is(0);
            x.make(1, owner, 2, 1).capped();
            x.make(1, owner, 1, 1).is(1);
            x.grow(1, 1, 1).capped();
            x.make(1, owner, 1, 1).capped();
            x.make(1, (owner + 1) % 6, 1000, 1).is(2);
        }
    }

    private static void capOfAnOwnerAsTold() {
        Check.sentence("of an OWNER as many as is told for it");
        Run x = new Run();
        x.cap(1, 50);
        x.make(0, 1, 51, 1).capped();
        x.make(0, 1, 30, 9).is(0);
        x.grow(0, 0, 21).capped();
        x.make(0, 1, 21, 1).capped();
        x.make(0, 1, 19, 1).is(1);
        x.grow(0, 0, 2).capped();
        x.grow(0, 0, 1).is(10 + 9);
        x.tick(2).is(1);
        int digest = (int) x.digest(1).value();
        x.cap(1, 49);
        x.back(1, 0, digest, 1).capped();
        x.cap(1, 50);
        x.back(1, 0, digest, 1).is(19 * 2);
        Run y = new Run();
        y.cap(0, 5000);
        for (int payer = 0; payer < 5; payer++) {
            y.make(payer, 0, 1000, 1).is(payer);
        }
        y.make(5, 0, 1, 1).capped();
    }

    private static int digestOf(int size, int... words) {
        long d = size;
        for (int word : words) {
            d = (31 * d + word) & 0xffffffffL;
        }
        return (int) (d ^ (d >> 13));
    }

    private static void digestIs(int due, int size, int... words) {
        Run x = new Run();
        x.make(0, 0, size, 1);
        for (int k = 0; k < 4; k++) {
            x.write(0, k, words[k]);
        }
        x.digest(0).is(due);
        Check.due("the same by a second reckoning", digestOf(size, words), due);
    }

    private static void digest() {
        Check.sentence("DIGEST of an OBJECT: d, SIZE at first; for WORDS 0 to 3 d becomes 31 d and the WORD; then d xor (d shifted right by 13 without sign)");
        digestIs(8521266, 9, 7, 0, 0, 0);
        digestIs(923521 ^ 112, 1, 0, 0, 0, 0);
        digestIs((923521 + 29791 + 2 * 961 + 3 * 31 + 4) ^ 116, 1, 1, 2, 3, 4);
        digestIs(923521000 ^ 112734, 1000, 0, 0, 0, 0);
        Run x = new Run();
        x.make(0, 0, 9, 1);
        x.write(0, 0, 7);
        x.grow(0, 0, 1);
        x.digest(0).is(digestOf(10, 7, 0, 0, 0));
        x.shrink(0, 9);
        x.digest(0).is(digestOf(1, 7, 0, 0, 0));
    }

    private static void digestWraps() {
        Check.sentence("in 32 bits, wrapping");
        digestIs(-1 ^ 524287, 1, 0, 0, 0, -923522);
        digestIs(Integer.MIN_VALUE ^ (1 << 18), 1, 0, 0, 0, Integer.MAX_VALUE - 923520);
        digestIs(0, 1, 0, 0, 0, -923521);
        digestIs(digestOf(3, 7, Integer.MIN_VALUE, -1, Integer.MAX_VALUE), 3, 7, Integer.MIN_VALUE, -1, Integer.MAX_VALUE);
        digestIs(digestOf(1000, -1, -1, -1, -1), 1000, -1, -1, -1, -1);
        digestIs(digestOf(1000, Integer.MAX_VALUE, 0, 0, 0), 1000, Integer.MAX_VALUE, 0, 0, 0);
    }
}
