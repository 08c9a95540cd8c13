/** Promise 5: make. */
public final class Promise05Test {
    private static final int MIN = Integer.MIN_VALUE;
    private static final int MAX = Integer.MAX_VALUE;

    public static void main(String[] args) {
        itsNumber();
        itIsAsMade();
        unknown();
        outside();
        capped();
        lacks();
        room();
        order();
        Check.done();
    }

    private static void itsNumber() {
        Check.sentence("MADE: its number");
        Run x = new Run();
        x.make(0, 0, 1, 1).is(0);
        x.make(5, 5, 1, 1).is(1);
        x.drop(1);
        x.make(0, 0, 1, 1).is(2);
        x.tick(2);
        x.make(0, 0, 1, 1).is(3);
        x.make(0, 0, 0, 1).outside();
        x.make(0, 0, 1, 1).is(4);
    }

    private static void itIsAsMade() {
        Check.sentence("MADE an OBJECT takes DEPOSIT .. and RENT ..; it is PAID up to HEIGHT and these");
        Run x = new Run();
        x.make(2, 4, 1, 1);
        x.tick(1);
        x.make(2, 5, 100, 100);
        x.objectIs(0, 4, 1, 1, 0, 1, 10, 8);
        x.objectIs(1, 5, 100, 101, 0, 1, 1000, 100);
        x.layersAre(1, new int[] {100, 10, 2});
        x.coins(0, 2).is(100000 - 18 - 11000);
        x.coins(0, 4).is(100000);
        x.coins(0, 5).is(100000);
        x.told(5).is(1010);
        x.told(6).is(10008);
        for (int k = 0; k < 4; k++) {
            x.word(1, k).is(0);
        }
    }

    private static void unknown() {
        Check.sentence("UNKNOWN");
        Run x = new Run();
        for (int account : new int[] {-1, 6, MIN, MAX}) {
            x.make(account, 0, 1, 1).unknown();
            x.make(0, account, 1, 1).unknown();
            x.make(account, account, 1, 1).unknown();
        }
        x.make(0, 5, 1, 1).is(0);
        x.make(5, 0, 1, 1).is(1);
    }

    private static void outside() {
        Check.sentence("OUTSIDE");
        Run x = new Run();
        for (int size : new int[] {0, -1, 1001, MIN, MAX}) {
            x.make(0, 0, size, 1).outside();
        }
        for (int heights : new int[] {0, -1, 101, MIN, MAX}) {
            x.make(0, 0, 1, heights).outside();
        }
        x.make(0, 0, 1, 100).is(0);
        x.make(1, 1, 1000, 1).is(1);
    }

    private static void capped() {
        Check.sentence("CAPPED");
        Run x = new Run();
        x.cap(1, 10);
        x.make(0, 1, 11, 1).capped();
        x.make(0, 1, 10, 1).is(0);
        x.make(0, 1, 1, 1).capped();
        x.drop(0);
        x.make(0, 1, 10, 1).is(1);
        x.tick(2);
        x.make(0, 1, 11, 1).capped();
        x.make(0, 1, 10, 1).is(2);
    }

    private static void lacks() {
        Check.sentence("LACKS");
        Run x = new Run();
        x.make(0, 0, 910, 100).lacks();
        x.make(0, 0, 1000, 91).lacks();
        x.make(0, 0, 1000, 90).is(0);
        x.coins(0, 0).is(0);
        x.make(0, 1, 1, 1).lacks();
        x.make(1, 1, 1, 1).is(1);
        Run y = new Run();
        y.edition(5, 100, 20, 64);
        y.edition(6, 0, 0, 1);
        y.tick(5);
        y.make(0, 0, 1000, 100).lacks();
        y.make(0, 0, 47, 100).lacks();
        y.make(0, 0, 833, 1).is(0);
        y.coins(0, 0).is(100000 - 99960);
        y.make(0, 1, 1, 1).lacks();
        y.tick(1);
        y.make(0, 1, 1000, 100).is(1);
        y.coins(0, 0).is(40);
    }

    private static void room() {
        Check.sentence("ROOM");
        Run x = new Run();
        for (int i = 0; i < 59; i++) {
            x.make(1, 1, 1, 1);
        }
        x.make(1, 1, 1, 1).is(59);
        x.make(1, 1, 1, 1).room();
        x.drop(59);
        x.make(1, 1, 1, 1).room();
        x.clear().is(60);
        x.make(1, 1, 1, 1).is(0);
    }

    private static void order() {
        Check.sentence("UNKNOWN; OUTSIDE; CAPPED; LACKS; ROOM: the first that fits");
        Run x = new Run();
        x.make(0, 0, 909, 100);
        x.make(-1, 0, 0, 1).unknown();
        x.make(0, 6, 1, 101).unknown();
        x.make(0, 0, 1001, 1).outside();
        x.make(0, 0, 92, 101).outside();
        x.make(0, 0, 92, 1).capped();
        x.make(0, 1, 92, 1).lacks();
        for (int i = 1; i < 60; i++) {
            x.make(1, 1, 1, 1);
        }
        x.make(6, 1, 1, 1).unknown();
        x.make(1, 1, 0, 1).outside();
        x.make(1, 1, 942, 1).capped();
        x.make(0, 1, 1, 1).lacks();
        x.make(1, 1, 1, 1).room();
    }
}
