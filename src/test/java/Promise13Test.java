/** Promise 13: tick. */
public final class Promise13Test {
    public static void main(String[] args) {
        soMany();
        howManyWereArchived();
        oneByOne();
        outside();
        farHeight();
        Check.done();
    }

    private static void soMany() {
        Check.sentence("So many TICKS (1 to 100)");
        Run x = new Run();
        x.tick(1).is(0);
        x.told(0).is(1);
        x.tick(100).is(0);
        x.told(0).is(101);
    }

    private static void howManyWereArchived() {
        Check.sentence("how many were ARCHIVED");
        Run x = new Run();
        for (int heights = 1; heights <= 100; heights += 9) {
            x.make(0, 0, 1, heights);
        }
        x.tick(1).is(0);
        x.tick(1).is(1);
        x.tick(26).is(2);
        x.tick(1).is(1);
        x.tick(71).is(7);
        x.tick(1).is(1);
        x.told(3).is(12);
        x.tick(100).is(0);
    }

    /** Each of the TICKS shares and archives for itself: what comes is as by so many calls of one TICK each. */
    private static void oneByOne() {
        Check.sentence("So many TICKS");
        Run x = new Run();
        Run y = new Run();
        for (Run z : new Run[] {x, y}) {
            z.edition(7, 3, 2, 50);
            z.make(0, 0, 101, 3);
            z.make(1, 1, 50, 9);
            z.weight(1, 3);
            z.weight(4, 4);
        }
        x.tick(12).is(2);
        for (int i = 0; i < 12; i++) {
            y.tick(1);
        }
        Check.same("12 TICKS in one call", Look.at(x.calls()), Look.at(y.calls()));
        x.nodesAre(0, 322, 0, 0, 431);
    }

    private static void outside() {
        Check.sentence("OUTSIDE");
        Run x = new Run();
        x.make(0, 0, 10, 1);
        x.weight(0, 1);
        for (int n : new int[] {0, -1, 101, Integer.MIN_VALUE, Integer.MAX_VALUE}) {
            x.tick(n).outside();
        }
        x.tick(100).is(1);
    }

    /** HEIGHT 100000 itself is 1000 calls away, and nothing is promised after the 512th: so this goes as far as a run can. */
    private static void farHeight() {
        Check.sentence("HEIGHT 100000 at most");
        Run x = new Run();
        x.edition(50000, 2, 3, 4);
        x.make(0, 0, 1, 100);
        for (int i = 1; i <= 505; i++) {
            x.tick(100).is(i == 2 ? 1 : 0);
        }
        x.told(0).is(50500);
        x.make(1, 1, 1, 1).is(1);
        x.coins(0, 1).is(100000 - 2 - 12);
        x.tick(100).is(1);
        x.told(0).is(50600);
    }
}
