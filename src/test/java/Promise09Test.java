/** Promise 9: write. */
public final class Promise09Test {
    private static final int MIN = Integer.MIN_VALUE;
    private static final int MAX = Integer.MAX_VALUE;

    public static void main(String[] args) {
        becomes();
        unknown();
        outsideK();
        notLive();
        order();
        Check.done();
    }

    private static void becomes() {
        Check.sentence("WORD k of an OBJECT becomes v: 1");
        Run x = new Run();
        x.make(0, 0, 10, 1);
        x.make(0, 0, 10, 1);
        int[] words = {MIN, -101, 0, MAX};
        for (int k = 0; k < 4; k++) {
            x.write(0, k, words[k]).is(1);
        }
        for (int k = 0; k < 4; k++) {
            x.word(0, k).is(words[k]);
            x.word(1, k).is(0);
        }
        x.write(0, 3, 5).is(1);
        x.write(0, 3, 5).is(1);
        x.word(0, 3).is(5);
        x.objectIs(0, 0, 10, 1, 0, 1, 100, 10);
        x.coins(0, 0).is(100000 - 220);
    }

    private static void unknown() {
        Check.sentence("UNKNOWN");
        Run x = new Run();
        x.write(0, 0, 1).unknown();
        x.make(0, 0, 10, 1);
        for (int object : new int[] {-1, 1, 60, MIN, MAX}) {
            x.write(object, 0, 1).unknown();
        }
        x.write(0, 0, 1).is(1);
    }

    private static void outsideK() {
        Check.sentence("OUTSIDE: k");
        Run x = new Run();
        x.make(0, 0, 10, 1);
        for (int k : new int[] {-1, 4, MIN, MAX}) {
            x.write(0, k, 1).outside();
        }
        x.write(0, 0, 1).is(1);
        x.write(0, 3, 1).is(1);
    }

    private static void notLive() {
        Check.sentence("STATE: it is not LIVE");
        Run x = new Run();
        x.make(0, 0, 10, 1);
        x.make(0, 0, 10, 1);
        x.drop(1);
        x.write(1, 0, 1).state();
        x.tick(1);
        x.write(0, 0, 1).is(1);
        x.tick(1);
        x.write(0, 0, 2).state();
        x.back(0, 0, (int) x.digest(0).value(), 1);
        x.word(0, 0).is(1);
        x.write(0, 0, 2).is(1);
    }

    private static void order() {
        Check.sentence("UNKNOWN; OUTSIDE ..; STATE ..: the first that fits");
        Run x = new Run();
        x.make(0, 0, 10, 1);
        x.make(0, 0, 10, 1);
        x.drop(1);
        x.tick(2).is(1);
        x.write(2, 4, 1).unknown();
        x.write(-1, -1, 1).unknown();
        for (int object = 0; object < 2; object++) {
            x.write(object, 4, 1).outside();
            x.write(object, -1, 1).outside();
            x.write(object, 3, 1).state();
        }
    }
}
