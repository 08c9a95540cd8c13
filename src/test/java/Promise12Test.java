/** Promise 12: digest. */
public final class Promise12Test {
    public static void main(String[] args) {
        ofAnObject();
        ofOneThatIsGone();
        unknown();
        anyNumber();
        Check.done();
    }

    private static void ofAnObject() {
        Check.sentence("DIGEST of an OBJECT");
        Run x = new Run();
        x.make(0, 0, 9, 1);
        x.digest(0).isAndChangesNothing(8311689 ^ 1014);
        x.write(0, 0, 7);
        x.digest(0).isAndChangesNothing(8521266);
        x.tick(2).is(1);
        x.digest(0).isAndChangesNothing(8521266);
        x.back(0, 1, 8521266, 1).is(18);
        x.digest(0).isAndChangesNothing(8521266);
        x.pay(0, 1, 1);
        x.digest(0).is(8521266);
    }

    private static void ofOneThatIsGone() {
        Check.sentence("(also of one that is GONE, as it was)");
        Run x = new Run();
        for (int i = 0; i < 2; i++) {
            x.make(0, 0, 12, 1);
            x.grow(i, 1, 2);
            x.shrink(i, 5);
            x.write(i, 0, 7);
            x.digest(i).value();
        }
        x.shrink(0, 3);
        x.grow(0, 0, 3);
        x.drop(0);
        x.digest(0).isAndChangesNothing(8521266);
        x.tick(2).is(1);
        x.drop(1);
        x.digest(1).isAndChangesNothing(8521266);
        x.make(0, 0, 1, 1);
        x.digest(0).is(8521266);
    }

    private static void unknown() {
        Check.sentence("UNKNOWN: NONE");
        Run x = new Run();
        x.digest(0).none();
        x.make(0, 0, 9, 1);
        for (int object : new int[] {-1, 1, 60, Integer.MIN_VALUE, Integer.MAX_VALUE}) {
            x.digest(object).none();
        }
        x.clear();
        x.digest(0).none();
    }

    /** The last WORD is such that the sum is the number that a digest of -109 comes from, and one of -101. */
    private static void anyNumber() {
        Check.sentence("(It may be any number.)");
        for (int due : new int[] {-109, -101, -1, 0, Integer.MIN_VALUE, Integer.MAX_VALUE}) {
            Run x = new Run();
            x.make(0, 0, 1, 1);
            x.write(0, 3, sumBefore(due) - 923521);
            x.digest(0).is(due);
            x.tick(2).is(1);
            x.back(0, 0, due, 1).is(16);
        }
    }

    /** Undoes d xor (d shifted right by 13): three steps bring back all 32 bits. */
    private static int sumBefore(int digest) {
        int d = digest;
        for (int i = 0; i < 3; i++) {
            d = digest ^ (d >>> 13);
        }
        return d;
    }
}
