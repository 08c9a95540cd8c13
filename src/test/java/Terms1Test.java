/** The terms' ==== 1: HEIGHT, EDITIONS, OBJECTS, CHARGED size, LAYERS. */
public final class Terms1Test {
    public static void main(String[] args) {
        heightAtFirst();
        upToTheNextOne();
        price();
        rent();
        least();
        firstEdition();
        nineFurther();
        fiveAhead();
        greaterThanBefore();
        sixtyObjects();
        sizes();
        words();
        liveArchivedGone();
        charged();
        bytesJoin();
        bytesAreANewLayer();
        sixteenLayers();
        bytesGo();
        eachGivesBackItsPrice();
        Check.done();
    }

    private static void heightAtFirst() {
        Check.sentence("HEIGHT is 0 at first");
        Run x = new Run();
        x.told(0).is(0);
        x.make(0, 0, 10, 1);
        x.object(0, 2).is(1);
    }

    private static void editionIs(Run x, int height, int price, int rent, int least, int from) {
        x.priceAt(height, 0).is(price);
        x.priceAt(height, 1).is(rent);
        x.priceAt(height, 2).is(least);
        x.priceAt(height, 3).is(from);
    }

    private static void upToTheNextOne() {
        Check.sentence("AN EDITION holds from a HEIGHT on, up to the next one");
        Run x = new Run();
        x.edition(6, 20, 2, 16).is(2);
        x.edition(9, 5, 3, 1).is(3);
        editionIs(x, 0, 10, 1, 8, 0);
        editionIs(x, 5, 10, 1, 8, 0);
        editionIs(x, 6, 20, 2, 16, 6);
        editionIs(x, 8, 20, 2, 16, 6);
        editionIs(x, 9, 5, 3, 1, 9);
        editionIs(x, 100000, 5, 3, 1, 9);
        x.tick(5);
        x.make(0, 0, 4, 1);
        x.tick(1);
        x.make(1, 0, 4, 1);
        x.tick(2);
        x.make(2, 0, 4, 1);
        x.tick(1);
        x.make(3, 0, 4, 1);
        x.accountsAre(100000 - 40 - 8, 100000 - 80 - 32, 100000 - 80 - 32, 100000 - 20 - 12);
        editionIs(x, 5, 10, 1, 8, 0);
    }

    private static void price() {
        Check.sentence("a PRICE of a byte (0 to 100)");
        Run x = new Run();
        x.edition(5, -1, 1, 8).outside();
        x.edition(5, 101, 1, 8).outside();
        x.edition(5, 0, 1, 8).is(2);
        x.edition(6, 100, 1, 8).is(3);
        x.tick(5);
        x.make(0, 0, 8, 1);
        x.coins(0, 0).is(100000 - 8);
        x.layersAre(0, new int[] {8, 0, 0});
        x.drop(0).is(0);
        x.tick(1);
        x.make(1, 1, 8, 1);
        x.coins(0, 1).is(100000 - 808);
        x.drop(1).is(800);
    }

    private static void rent() {
        Check.sentence("a RENT of a byte for a HEIGHT (0 to 20)");
        Run x = new Run();
        x.edition(5, 1, -1, 8).outside();
        x.edition(5, 1, 21, 8).outside();
        x.edition(5, 1, 0, 8).is(2);
        x.edition(6, 1, 20, 8).is(3);
        x.make(0, 0, 10, 50);
        x.tick(5);
        x.pay(0, 0, 100).is(0);
        x.object(0, 2).is(150);
        x.tick(1);
        x.pay(0, 0, 100).is(20000);
    }

    private static void least() {
        Check.sentence("a LEAST size (1 to 64)");
        Run x = new Run();
        x.edition(5, 1, 1, 0).outside();
        x.edition(5, 1, 1, 65).outside();
        x.edition(5, 1, 1, 1).is(2);
        x.edition(6, 1, 1, 64).is(3);
        x.make(0, 0, 1, 50);
        x.object(0, 6).is(8);
        x.tick(5);
        x.object(0, 6).is(1);
        x.tick(1);
        x.object(0, 6).is(64);
    }

    private static void firstEdition() {
        Check.sentence("10, 1, 8 from 0 on");
        Run x = new Run();
        editionIs(x, 0, 10, 1, 8, 0);
        editionIs(x, 1, 10, 1, 8, 0);
        editionIs(x, 100000, 10, 1, 8, 0);
        x.told(8).is(1);
        x.make(0, 0, 1, 1);
        x.coins(0, 0).is(100000 - 18);
    }

    private static void nineFurther() {
        Check.sentence("Further ones, 9 at most");
        Run x = new Run();
        for (int i = 1; i <= 9; i++) {
            x.edition(10 * i, i, i, i).is(i + 1);
        }
        x.told(8).is(10);
        x.edition(100, 10, 10, 10).room();
        x.edition(100000, 10, 10, 10).room();
        for (int i = 1; i <= 9; i++) {
            editionIs(x, 10 * i + 9, i, i, i, 10 * i);
        }
        x.tick(99);
        x.edition(1000, 10, 10, 10).room();
    }

    private static void fiveAhead() {
        Check.sentence("are told 5 HEIGHTS ahead at least");
        Run x = new Run();
        for (int from = 0; from <= 4; from++) {
            x.edition(from, 1, 1, 1).state();
        }
        x.edition(5, 1, 1, 1).is(2);
        x.tick(95);
        x.edition(95, 2, 2, 2).state();
        x.edition(99, 2, 2, 2).state();
        x.edition(100, 2, 2, 2).is(3);
    }

    private static void greaterThanBefore() {
        Check.sentence("each from a greater HEIGHT than the one told before");
        Run x = new Run();
        x.edition(10, 1, 1, 1).is(2);
        x.edition(9, 2, 2, 2).state();
        x.edition(10, 2, 2, 2).state();
        x.edition(11, 2, 2, 2).is(3);
        x.edition(10, 3, 3, 3).state();
        x.edition(11, 3, 3, 3).state();
        x.edition(100000, 3, 3, 3).is(4);
        x.edition(100000, 4, 4, 4).state();
        x.edition(99999, 4, 4, 4).state();
    }

    private static void sixtyObjects() {
        Check.sentence("OBJECTS 0, 1, .., 60 at most in all");
        Run x = new Run();
        for (int i = 0; i < 60; i++) {
            x.make(1, 1, 1, 1).is(i);
        }
        x.make(1, 1, 1, 1).room();
        x.object(59, 1).is(1);
        x.object(60, 1).unknown();
        x.drop(5);
        x.make(1, 1, 1, 1).room();
        x.tick(2).is(59);
        x.make(1, 1, 1, 1).room();
        x.told(1).is(60);
    }

    private static void sizes() {
        Check.sentence("a SIZE (1 to 1000)");
        Run x = new Run();
        x.make(0, 0, 0, 1).outside();
        x.make(0, 0, 1001, 1).outside();
        x.make(0, 0, 1000, 1).is(0);
        x.make(0, 1, 1, 1).is(1);
        x.grow(0, 0, 1).outside();
        x.grow(1, 0, 1000).outside();
        x.shrink(0, 1000).outside();
        x.shrink(1, 1).outside();
        x.shrink(0, 999).is(9990);
        x.object(0, 1).is(1);
        x.grow(1, 0, 999).is(9990 + 992);
        x.object(1, 1).is(1000);
    }

    private static void words() {
        Check.sentence("WORDS 0 to 3 (0 at first)");
        Run x = new Run();
        x.make(0, 0, 1, 1);
        for (int k = 0; k <= 3; k++) {
            x.word(0, k).is(0);
            x.write(0, k, k + 5).is(1);
            x.word(0, k).is(k + 5);
        }
        for (int k : new int[] {-1, 4, Integer.MIN_VALUE, Integer.MAX_VALUE}) {
            x.word(0, k).outside();
            x.write(0, k, 1).outside();
        }
    }

    private static void liveArchivedGone() {
        Check.sentence("One is LIVE, ARCHIVED or GONE");
        Run x = new Run();
        x.make(0, 0, 1, 1);
        x.make(0, 0, 1, 1);
        x.object(0, 3).is(0);
        x.drop(1);
        x.object(1, 3).is(2);
        x.tick(2);
        x.object(0, 3).is(1);
        x.object(1, 3).is(2);
        x.drop(0);
        x.object(0, 3).is(2);
    }

    private static void charged() {
        Check.sentence("CHARGED size is its SIZE, but at least LEAST, by the EDITION that holds");
        Run x = new Run();
        x.edition(5, 10, 1, 9);
        x.edition(6, 10, 1, 1);
        for (int size = 7; size <= 9; size++) {
            x.make(0, 0, size, 50);
        }
        int[][] due = {{8, 8, 9}, {9, 9, 9}, {7, 8, 9}};
        x.tick(4);
        for (int[] row : due) {
            for (int object = 0; object < 3; object++) {
                x.object(object, 6).is(row[object]);
                x.pay(object, 1, 1).is(row[object]);
            }
            x.tick(1);
        }
    }

    private static void bytesJoin() {
        Check.sentence("Bytes that come join the newest LAYER, if they come at its PRICE from the same one");
        Run x = new Run();
        x.edition(5, 10, 3, 1);
        x.make(0, 1, 10, 50);
        x.grow(0, 0, 5);
        x.layersAre(0, new int[] {15, 10, 0});
        x.tick(5);
        x.grow(0, 0, 1);
        x.layersAre(0, new int[] {16, 10, 0});
        x.grow(0, 2, 4);
        x.shrink(0, 4);
        x.grow(0, 0, 1);
        x.layersAre(0, new int[] {17, 10, 0});
    }

    private static void bytesAreANewLayer() {
        Check.sentence("else they are a new one");
        Run x = new Run();
        x.edition(5, 9, 1, 8);
        x.edition(6, 10, 1, 8);
        x.make(0, 1, 10, 50);
        x.grow(0, 1, 5);
        x.grow(0, 0, 5);
        x.layersAre(0, new int[] {10, 10, 0}, new int[] {5, 10, 1}, new int[] {5, 10, 0});
        x.tick(5);
        x.grow(0, 0, 1);
        x.tick(1);
        x.grow(0, 0, 2);
        x.layersAre(0, new int[] {10, 10, 0}, new int[] {5, 10, 1}, new int[] {5, 10, 0}, new int[] {1, 9, 0}, new int[] {2, 10, 0});
    }

    private static void sixteenLayers() {
        Check.sentence("16 at most, ROOM");
        Run x = new Run();
        x.edition(5, 11, 1, 8);
        x.make(0, 0, 1, 50);
        for (int i = 1; i <= 15; i++) {
            x.grow(0, i % 2, 1);
        }
        x.object(0, 4).is(16);
        x.grow(0, 0, 1).room();
        x.grow(0, 2, 1).room();
        x.grow(0, 1, 1).is(10 + 50);
        x.layer(0, 15, 0).is(2);
        x.layer(0, 16, 0).none();
        x.tick(5);
        x.grow(0, 1, 1).room();
        x.shrink(0, 2);
        x.object(0, 4).is(15);
        x.grow(0, 1, 1).is(11 + 45);
        x.object(0, 4).is(16);
        x.grow(0, 0, 1).room();
    }

    /** Object 0: 10 bytes from account 0 at 10, 6 from 1 at 10, 8 from 0 at 4. */
    private static Run threeLayers() {
        Run x = new Run();
        x.edition(5, 4, 1, 8);
        x.make(0, 2, 10, 50);
        x.grow(0, 1, 6);
        x.tick(5);
        x.grow(0, 0, 8);
        return x;
    }

    private static void bytesGo() {
        Check.sentence("Bytes that go are of the newest LAYER, when that is used up of the one before, and so on");
        int[] first = {10, 10, 0};
        int[] second = {6, 10, 1};
        int[][][] due = {
            {first, second, {7, 4, 0}}, {first, second, {1, 4, 0}}, {first, second}, {first, {5, 10, 1}},
            {first, {1, 10, 1}}, {first}, {{9, 10, 0}}, {{1, 10, 0}},
        };
        int[] less = {1, 7, 8, 9, 13, 14, 15, 23};
        for (int i = 0; i < less.length; i++) {
            Run x = threeLayers();
            x.shrink(0, less[i]);
            x.layersAre(0, due[i]);
            x.object(0, 1).is(24 - less[i]);
        }
        Run y = threeLayers();
        y.shrink(0, 24).outside();
        y.drop(0);
        y.layersAre(0);
    }

    private static void eachGivesBackItsPrice() {
        Check.sentence("each gives back its PRICE to the one from whom it was taken");
        int[][] due = {{1, 4, 0}, {8, 32, 0}, {9, 32, 10}, {14, 32, 60}, {15, 42, 60}, {23, 122, 60}, {24, 132, 60}};
        for (int[] row : due) {
            Run x = threeLayers();
            int[] before = {(int) x.coins(0, 0).value(), (int) x.coins(0, 1).value()};
            (row[0] == 24 ? x.drop(0) : x.shrink(0, row[0])).is(row[1] + row[2]);
            x.accountsAre(before[0] + row[1], before[1] + row[2], 100000, 100000, 100000, 100000);
            x.told(5).is(192 - row[1] - row[2]);
        }
    }
}
