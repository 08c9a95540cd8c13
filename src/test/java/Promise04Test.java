/** Promise 4: cap. */
public final class Promise04Test {
    public static void main(String[] args) {
        whatItWas();
        sizes();
        unknown();
        liveStaysSo();
        ofTheOwnerAlone();
        Check.done();
    }

    private static void whatItWas() {
        Check.sentence("The CAP of an OWNER ..: what it was");
        Run x = new Run();
        for (int account = 0; account < 6; account++) {
            x.cap(account, 100 + account).is(1000);
        }
        for (int account = 0; account < 6; account++) {
            x.cap(account, 7).is(100 + account);
            x.cap(account, 7).is(7);
        }
    }

    private static void sizes() {
        Check.sentence("(0 to 5000)");
        Run x = new Run();
        for (int size : new int[] {-1, 5001, Integer.MIN_VALUE, Integer.MAX_VALUE}) {
            x.cap(2, size).outside();
        }
        x.cap(2, 0).is(1000);
        x.make(0, 2, 1, 1).capped();
        x.cap(2, 5000).is(0);
        x.cap(2, 1).is(5000);
        x.make(0, 2, 2, 1).capped();
        x.make(0, 2, 1, 1).is(0);
    }

    private static void unknown() {
        Check.sentence("UNKNOWN; OUTSIDE");
        Run x = new Run();
        for (int account : new int[] {-1, 6, Integer.MIN_VALUE, Integer.MAX_VALUE}) {
            x.cap(account, 1).unknown();
            x.cap(account, -1).unknown();
            x.cap(account, 5001).unknown();
        }
        x.cap(0, 5001).outside();
        x.cap(5, 5000).is(1000);
    }

    private static void liveStaysSo() {
        Check.sentence("(What is LIVE stays so.)");
        Run x = new Run();
        x.make(0, 1, 30, 9);
        x.cap(1, 29).is(1000);
        x.objectIs(0, 1, 30, 9, 0, 1, 300, 30);
        x.grow(0, 0, 1).capped();
        x.make(0, 1, 1, 1).capped();
        x.pay(0, 0, 1).is(30);
        x.cap(1, 0).is(29);
        x.tick(1).is(0);
        x.object(0, 3).is(0);
        x.told(4).is(30);
        x.shrink(0, 29).is(290);
        x.grow(0, 0, 1).capped();
        x.cap(1, 2);
        x.grow(0, 0, 1).is(10);
    }

    private static void ofTheOwnerAlone() {
        Check.sentence("The CAP of an OWNER");
        Run x = new Run();
        x.cap(0, 0);
        x.make(1, 0, 1, 1).capped();
        x.make(0, 1, 1000, 1).is(0);
        x.make(0, 2, 1, 1).is(1);
        x.grow(1, 0, 999).is(9990 + 992);
    }
}
