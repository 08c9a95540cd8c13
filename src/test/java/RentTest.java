/** Promises 8 (pay), 11 (back), 13 (tick) and 14 (weight). */
public final class RentTest {
    public static void main(String[] args) {
        pay();
        payRefuses();
        archives();
        tickRefuses();
        back();
        backByTheEditionOfNow();
        backRefuses();
        shares();
        weightRefuses();
        farHeights();
        Check.done();
    }

    private static void pay() {
        RentSizes x = new RentSizes();
        x.make(0, 1, 20, 5);
        Check.due("pay(0, 3, 7)", x.pay(0, 3, 7), 140);
        Check.due("object(0, 2)", x.object(0, 2), 12);
        Check.due("coins(0, 3)", x.coins(0, 3), 99860);
        Check.due("told(6)", x.told(6), 240);
        x.shrink(0, 15);
        Check.due("pay for at least LEAST", x.pay(0, 3, 1), 8);
        x.pay(0, 3, 100);
        x.pay(0, 3, 100);
        x.pay(0, 3, 100);
        Check.due("object(0, 2)", x.object(0, 2), 313);
        Check.refused(x, "pay up to 401", () -> x.pay(0, 3, 88), RentSizes.STATE);
        Check.due("pay up to 400", x.pay(0, 3, 87), 696);
        x.tick(1);
        Check.refused(x, "pay up to 402 at 1", () -> x.pay(0, 3, 2), RentSizes.STATE);
        Check.due("pay up to 401 at 1", x.pay(0, 3, 1), 8);
    }

    private static void payRefuses() {
        RentSizes x = new RentSizes();
        x.make(0, 0, 909, 100);
        x.make(1, 1, 10, 1);
        Check.refused(x, "pay(2, 0, 1)", () -> x.pay(2, 0, 1), RentSizes.UNKNOWN);
        Check.refused(x, "pay(-1, 0, 0)", () -> x.pay(-1, 0, 0), RentSizes.UNKNOWN);
        Check.refused(x, "pay(0, 6, 1)", () -> x.pay(0, 6, 1), RentSizes.UNKNOWN);
        for (int heights : new int[] {0, -1, 101, Integer.MAX_VALUE, Integer.MIN_VALUE}) {
            Check.refused(x, "pay(1, 1, " + heights + ")", () -> x.pay(1, 1, heights), RentSizes.OUTSIDE);
        }
        Check.refused(x, "pay and lack", () -> x.pay(1, 0, 2), RentSizes.LACKS);
        Check.due("pay the last coin", x.pay(1, 0, 1), 10);
        x.tick(3);
        Check.refused(x, "pay for an archived one", () -> x.pay(1, 1, 1), RentSizes.STATE);
        Check.refused(x, "pay outside for an archived one", () -> x.pay(1, 1, 0), RentSizes.OUTSIDE);
        x.drop(1);
        Check.refused(x, "pay for one that is gone", () -> x.pay(1, 1, 1), RentSizes.STATE);
    }

    private static void archives() {
        RentSizes x = new RentSizes();
        x.make(0, 0, 10, 1);
        x.make(0, 0, 10, 2);
        x.make(0, 0, 10, 2);
        x.make(0, 0, 10, 3);
        x.drop(2);
        Check.due("tick(1)", x.tick(1), 0);
        Check.due("tick(1): paid up to 1", x.tick(1), 1);
        Check.due("object(0, 3)", x.object(0, 3), 1);
        Check.due("tick(2)", x.tick(2), 2);
        Check.due("told(0)", x.told(0), 4);
        Check.due("told(3)", x.told(3), 3);
        Check.due("told(4)", x.told(4), 0);
        Check.due("deposits stay held", x.told(5), 300);
        Check.due("tick(100)", x.tick(100), 0);
    }

    private static void tickRefuses() {
        RentSizes x = new RentSizes();
        for (int n : new int[] {0, -1, 101, Integer.MAX_VALUE, Integer.MIN_VALUE}) {
            Check.refused(x, "tick(" + n + ")", () -> x.tick(n), RentSizes.OUTSIDE);
        }
        Check.due("tick(100)", x.tick(100), 0);
        Check.due("told(0)", x.told(0), 100);
    }

    private static void back() {
        RentSizes x = new RentSizes();
        x.make(0, 1, 20, 2);
        x.write(0, 1, -7);
        x.write(0, 3, 123456789);
        int digest = x.digest(0);
        x.tick(10);
        Check.due("an archived one's digest", x.digest(0), digest);
        Check.due("back(0, 4, digest, 5)", x.back(0, 4, digest, 5), 20 * (5 + 8));
        Check.due("object(0, 3)", x.object(0, 3), 0);
        Check.due("object(0, 2)", x.object(0, 2), 15);
        Check.due("coins(0, 4)", x.coins(0, 4), 99740);
        Check.due("told(6)", x.told(6), 40 + 260);
        Check.due("word(0, 0)", x.word(0, 0), 0);
        Check.due("word(0, 1)", x.word(0, 1), -7);
        Check.due("word(0, 3)", x.word(0, 3), 123456789);
        Check.due("told(4)", x.told(4), 20);
        Check.due("tick(5)", x.tick(5), 0);
        Check.due("tick(1)", x.tick(1), 1);
    }

    private static void backByTheEditionOfNow() {
        RentSizes x = new RentSizes();
        x.edition(6, 50, 3, 30);
        x.make(0, 1, 20, 2);
        x.tick(6);
        Check.due("back", x.back(0, 0, x.digest(0), 1), 30 * 3 * (1 + 4));
        Check.due("no deposit is taken", x.object(0, 5), 200);
    }

    private static void backRefuses() {
        RentSizes x = new RentSizes();
        x.make(0, 0, 900, 100);
        x.make(1, 1, 100, 1);
        int digest = x.digest(1);
        Check.refused(x, "back of a live one", () -> x.back(1, 1, digest, 1), RentSizes.STATE);
        x.tick(2);
        Check.refused(x, "back(2, 1, ..)", () -> x.back(2, 1, digest, 1), RentSizes.UNKNOWN);
        Check.refused(x, "back(-1, 1, ..)", () -> x.back(-1, 1, digest, 0), RentSizes.UNKNOWN);
        Check.refused(x, "back(1, 6, ..)", () -> x.back(1, 6, digest, 1), RentSizes.UNKNOWN);
        for (int heights : new int[] {0, -1, 101, Integer.MAX_VALUE, Integer.MIN_VALUE}) {
            Check.refused(x, "back(.., " + heights + ")", () -> x.back(1, 1, digest + 1, heights), RentSizes.OUTSIDE);
        }
        x.cap(1, 99);
        Check.refused(x, "another digest, capped, lacking", () -> x.back(1, 0, digest + 1, 100), RentSizes.PROOF);
        Check.refused(x, "capped, lacking", () -> x.back(1, 0, digest, 100), RentSizes.CAPPED);
        x.cap(1, 100);
        Check.refused(x, "lacking", () -> x.back(1, 0, digest, 100), RentSizes.LACKS);
        Check.due("back within the cap", x.back(1, 0, digest, 9), 1000);
        Check.due("coins(0, 0)", x.coins(0, 0), 0);
        x.tick(10);
        x.drop(1);
        Check.refused(x, "back of one that is gone", () -> x.back(1, 1, digest, 1), RentSizes.STATE);
    }

    private static void nodes(RentSizes x, String when, int... due) {
        for (int n = 0; n < 5; n++) {
            Check.due(when + ": coins(1, " + n + ")", x.coins(1, n), due[n]);
        }
    }

    private static void shares() {
        RentSizes x = new RentSizes();
        x.make(0, 0, 10, 10);
        Check.due("tick without weights", x.tick(1), 0);
        Check.due("the pool stays", x.told(6), 100);
        x.weight(0, 1);
        x.weight(1, 3);
        x.weight(2, 0);
        x.weight(3, 3);
        x.weight(4, 2);
        x.tick(1);
        nodes(x, "100 by 1 3 0 3 2", 11, 34, 0, 33, 22);
        Check.due("told(9)", x.told(9), 100);
        Check.due("told(6)", x.told(6), 0);
        x.pay(0, 1, 1);
        x.pay(0, 1, 1);
        x.tick(1);
        nodes(x, "and 20", 11 + 2, 34 + 7, 0, 33 + 7, 22 + 4);
        x.shrink(0, 1);
        x.pay(0, 1, 1);
        x.tick(1);
        nodes(x, "and 9", 11 + 2 + 1, 34 + 7 + 3, 0, 33 + 7 + 3, 22 + 4 + 2);
        Check.due("weight(1, 0)", x.weight(1, 0), 3);
        Check.due("weight(3, 1000)", x.weight(3, 1000), 3);
        Check.due("told(9)", x.told(9), 129);
        Check.due("told(7)", x.told(7), 600000);
    }

    private static void weightRefuses() {
        RentSizes x = new RentSizes();
        Check.refused(x, "weight(5, 1)", () -> x.weight(5, 1), RentSizes.UNKNOWN);
        Check.refused(x, "weight(-1, -1)", () -> x.weight(-1, -1), RentSizes.UNKNOWN);
        Check.refused(x, "weight(0, -1)", () -> x.weight(0, -1), RentSizes.OUTSIDE);
        Check.refused(x, "weight(0, 1001)", () -> x.weight(0, 1001), RentSizes.OUTSIDE);
        Check.due("weight(4, 1000)", x.weight(4, 1000), 0);
        Check.due("weight(4, 0)", x.weight(4, 0), 1000);
    }

    /** More ticks than 512 calls can tell, but the bound stands in the document. */
    private static void farHeights() {
        RentSizes x = new RentSizes();
        x.make(0, 0, 1000, 1);
        for (int i = 0; i < 999; i++) {
            x.tick(100);
        }
        Check.due("tick(99)", x.tick(99), 0);
        Check.refused(x, "tick(2) at 99999", () -> x.tick(2), RentSizes.OUTSIDE);
        Check.due("tick(1) at 99999", x.tick(1), 0);
        Check.refused(x, "tick(1) at 100000", () -> x.tick(1), RentSizes.OUTSIDE);
        Check.refused(x, "back", () -> x.back(0, 0, x.digest(0), 100), RentSizes.LACKS);
        Check.refused(x, "edition(100000, ..)", () -> x.edition(100000, 1, 1, 1), RentSizes.STATE);
    }
}
