/** Promise 22: clear. */
public final class Promise22Test {
    public static void main(String[] args) {
        howManyThereWere();
        asAtTheBeginning();
        fullOneIsEmptyAgain();
        nothingOldComesBack();
        Check.done();
    }

    private static void howManyThereWere() {
        Check.sentence("how many OBJECTS there were");
        Run x = new Run();
        x.clear().isAndChangesNothing(0);
        x.make(0, 0, 1, 1);
        x.clear().is(1);
        x.clear().is(0);
        used(x);
        x.clear().is(3);
    }

    private static void asAtTheBeginning() {
        Check.sentence("All is as at the beginning");
        Run x = new Run();
        used(x);
        x.clear();
        Check.same("a cleared object", Look.at(x.calls()), Look.at(new Run().calls()));
        x.edition(4, 1, 1, 1).state();
        x.edition(5, 1, 1, 1).is(2);
        x.make(0, 0, 1000, 90).is(0);
    }

    private static void fullOneIsEmptyAgain() {
        Check.sentence("All is as at the beginning (60 OBJECTS, 10 EDITIONS, 16 LAYERS)");
        Run x = new Run();
        for (int turn = 0; turn < 2; turn++) {
            for (int i = 1; i <= 9; i++) {
                x.edition(100 * i, i, i, i).is(i + 1);
            }
            x.edition(1000, 1, 1, 1).room();
            for (int i = 0; i < 60; i++) {
                x.make(i % 6, 0, 1, 1).is(i);
            }
            x.make(0, 0, 1, 1).room();
            for (int i = 1; i < 16; i++) {
                x.grow(59, i % 2, 1);
            }
            x.grow(59, 2, 1).room();
            x.clear().is(60);
        }
        Check.same("a cleared object", Look.at(x.calls()), Look.at(new Run().calls()));
    }

    private static void nothingOldComesBack() {
        Check.sentence("All is as at the beginning (what is made behind it)");
        Run x = new Run();
        used(x);
        x.clear();
        Run y = new Run();
        for (Run z : new Run[] {x, y}) {
            z.make(5, 4, 7, 9).is(0);
            z.grow(0, 5, 1).is(10);
            z.make(2, 2, 3, 4).is(1);
            z.layersAre(0, new int[] {8, 10, 5});
        }
        Check.same("what is made after clear()", Look.at(x.calls()), Look.at(y.calls()));
    }

    /** WORDS, LAYERS, an ARCHIVED and a GONE one, caps, weights, shares, two EDITIONS. */
    private static void used(Run x) {
        x.edition(5, 3, 2, 1);
        x.make(0, 1, 100, 10);
        x.grow(0, 2, 50);
        x.write(0, 0, 99);
        x.write(0, 3, -5);
        x.make(1, 1, 10, 1);
        x.make(1, 1, 10, 1);
        x.drop(2);
        x.cap(3, 17);
        x.weight(0, 3);
        x.tick(6).is(1);
        x.grow(0, 3, 5);
    }
}
