/** Promise 18: word. */
public final class Promise18Test {
    private static final int MIN = Integer.MIN_VALUE;
    private static final int MAX = Integer.MAX_VALUE;

    public static void main(String[] args) {
        ofALiveOne();
        unknown();
        outside();
        state();
        order();
        anyNumber();
        Check.done();
    }

    private static void ofALiveOne() {
        Check.sentence("WORD k of an OBJECT that is LIVE");
        Run x = new Run();
        x.make(0, 0, 10, 1);
        for (int k = 0; k < 4; k++) {
            x.word(0, k).isAndChangesNothing(0);
            x.write(0, k, 40 + k);
        }
        for (int k = 0; k < 4; k++) {
            x.word(0, k).isAndChangesNothing(40 + k);
        }
        x.grow(0, 0, 1);
        x.shrink(0, 5);
        x.word(0, 0).is(40);
    }

    private static void unknown() {
        Check.sentence("UNKNOWN");
        Run x = new Run();
        x.word(0, 0).unknown();
        x.make(0, 0, 10, 1);
        for (int object : new int[] {-1, 1, 60, MIN, MAX}) {
            x.word(object, 0).unknown();
        }
        x.word(0, 0).is(0);
    }

    private static void outside() {
        Check.sentence("OUTSIDE");
        Run x = new Run();
        x.make(0, 0, 10, 1);
        for (int k : new int[] {-1, 4, MIN, MAX}) {
            x.word(0, k).outside();
        }
        x.word(0, 3).is(0);
    }

    private static void state() {
        Check.sentence("STATE");
        Run x = new Run();
        x.make(0, 0, 10, 1);
        x.make(0, 0, 10, 1);
        x.write(0, 0, 6);
        x.drop(1);
        x.word(1, 0).state();
        x.tick(1);
        x.word(0, 0).is(6);
        x.tick(1);
        x.word(0, 0).state();
        x.drop(0);
        x.word(0, 0).state();
    }

    private static void order() {
        Check.sentence("UNKNOWN; OUTSIDE; STATE: the first that fits");
        Run x = new Run();
        x.make(0, 0, 10, 1);
        x.make(0, 0, 10, 1);
        x.drop(1);
        x.tick(2);
        x.word(2, 4).unknown();
        x.word(-1, -1).unknown();
        for (int object = 0; object < 2; object++) {
            x.word(object, 4).outside();
            x.word(object, -1).outside();
            x.word(object, 3).state();
        }
    }

    private static void anyNumber() {
        Check.sentence("(It may be any number.)");
        Run x = new Run();
        x.make(0, 0, 10, 1);
        for (int v : new int[] {-101, -102, -103, -109, -1, MIN, MAX}) {
            x.write(0, 1, v);
            x.word(0, 1).is(v);
        }
    }
}
