import java.util.Arrays;
import java.util.List;
import java.util.Map;
import java.util.Random;
import java.util.TreeMap;

/**
 * Long runs of calls, the same in every run of this test, held against PlainRents; told(7) must stay the same through all of
 * them. At the end every refusal that the document names must have been met.
 */
public final class ModelTest {
    private static final int RUNS = 1500;
    private static final int LONG_RUN = 450;
    private static final String[] NAMES = {
        "edition", "priceAt", "cap", "make", "grow", "shrink", "pay", "write", "drop", "back", "digest", "tick", "weight", "coins",
        "object", "layer", "word", "wouldGive", "told", "clear",
    };
    private static final int[][] MUST_MEET = {
        {-102, -103, -107}, {-102}, {-101, -102}, {-101, -102, -105, -106, -107}, {-101, -102, -103, -105, -106, -107},
        {-101, -102, -103}, {-101, -102, -103, -106}, {-101, -102, -103}, {-101, -103}, {-101, -102, -103, -104, -105, -106},
        {-109}, {-102}, {-101, -102}, {-101, -102}, {-101, -102}, {-101, -102, -109}, {-101, -102, -103}, {-101, -102, -103},
        {-102}, {},
    };
    /** How often each call comes: what changes and what archives must be neither rare nor all there is. */
    private static final int[][] TURNS = {
        {2, 1, 1, 9, 12, 5, 6, 4, 2, 8, 1, 5, 2, 1, 1, 1, 1, 2, 1, 0},
        {1, 1, 0, 20, 4, 2, 2, 2, 6, 3, 1, 2, 1, 1, 1, 1, 1, 1, 1, 0},
        {3, 1, 2, 3, 25, 8, 8, 3, 1, 9, 1, 3, 2, 1, 2, 3, 1, 3, 1, 0},
        {6, 3, 3, 6, 6, 4, 6, 5, 3, 20, 2, 14, 3, 2, 2, 2, 2, 2, 2, 1},
        {1, 0, 1, 1, 60, 4, 14, 1, 0, 3, 0, 1, 1, 0, 1, 3, 0, 3, 1, 0},
    };

    private static final Map<String, Integer> met = new TreeMap<>();
    private static Random random;
    private static int sizes;

    public static void main(String[] args) {
        Check.sentence("Promises 1 to 22 but 20, in long runs");
        for (int run = 0; run < RUNS; run++) {
            random = new Random(run);
            sizes = new int[] {12, 90, 400, 1000}[random.nextInt(4)];
            oneRun(run, TURNS[run % TURNS.length]);
        }
        for (int i = 0; i < NAMES.length; i++) {
            for (int refusal : MUST_MEET[i]) {
                String key = NAMES[i] + " " + refusal;
                Check.due("runs that meet " + key, met.getOrDefault(key, 0) > 0 ? 1 : 0, 1);
            }
        }
        Check.done();
    }

    /** A run makes so many calls that told(7) can be asked after each of them, or so many that few are left to look with. */
    private static void oneRun(int run, int[] turns) {
        boolean isShort = run % 2 == 0;
        Run x = new Run();
        PlainRents y = new PlainRents();
        for (int call = 0; call < (isShort ? Run.MOST_CALLS / 2 : LONG_RUN); call++) {
            int which = pick(turns);
            int[] a = arguments(which, y);
            long got = ask(x, which, a).value();
            int want = ask(y, which, a);
            Check.due("run " + run + ", call " + call + ": " + NAMES[which] + Arrays.toString(a), got, want);
            if (want < 0) {
                met.merge(NAMES[which] + " " + want, 1, Integer::sum);
            }
        }
        if (isShort) {
            coinsStay(run, x.calls());
        }
        compareAll(run, new Look(x.calls()), y);
    }

    private static void coinsStay(int run, List<Call> calls) {
        RentSizes x = new RentSizes();
        for (Call call : calls) {
            call.again(x);
            Check.due("run " + run + ", after " + call.text() + ": told(7)", x.told(7), 600000);
        }
    }

    private static int pick(int[] turns) {
        int all = Arrays.stream(turns).sum();
        int at = random.nextInt(all);
        for (int i = 0; i < turns.length; i++) {
            at -= turns[i];
            if (at < 0) {
                return i;
            }
        }
        return 0;
    }

    /** Mostly within the bounds, now and then at an edge or beyond. */
    private static int number(int least, int most) {
        int[] odd = {least - 1, most + 1, Integer.MIN_VALUE, Integer.MAX_VALUE, least, most, least + 1, most - 1};
        if (random.nextInt(16) == 0) {
            return odd[random.nextInt(odd.length)];
        }
        return most < least ? least : least + random.nextInt(most - least + 1);
    }

    /** Few of the accounts are used most of the time, so that their coins run out and their bytes join. */
    private static int account() {
        return random.nextBoolean() ? number(0, 5) : random.nextInt(2);
    }

    private static int heights() {
        return random.nextInt(3) > 0 ? 1 + random.nextInt(12) : number(1, 100);
    }

    private static int[] arguments(int which, PlainRents y) {
        int object = number(0, y.told(1) - 1);
        int size = random.nextInt(3) > 0 ? 1 + random.nextInt(sizes) : number(1, 1000);
        switch (which) {
            case 0:
                return new int[] {random.nextInt(20) > 0 ? y.told(0) + random.nextInt(30) : number(0, 100000), number(0, random.nextBoolean() ? 3 : 100), number(0, random.nextBoolean() ? 1 : 20), number(1, 64)};
            case 1:
                return new int[] {random.nextBoolean() ? number(0, 60) : number(0, 100000), number(0, 3)};
            case 2:
                return new int[] {account(), number(0, 5000)};
            case 3:
                return new int[] {account(), account(), size, heights()};
            case 4:
                return new int[] {object, account(), random.nextInt(3) > 0 ? number(1, 9) : number(1, 999)};
            case 5:
                return new int[] {object, random.nextBoolean() ? number(1, y.object(object, 1) - 1) : number(1, 20)};
            case 6:
                return new int[] {object, account(), heights()};
            case 7:
                return new int[] {object, number(0, 3), random.nextInt()};
            case 9:
                return new int[] {object, account(), y.digest(object) + (random.nextInt(8) == 0 ? 1 : 0), heights()};
            case 11:
                return new int[] {random.nextInt(4) > 0 ? 1 + random.nextInt(6) : number(1, 100)};
            case 12:
                return new int[] {number(0, 4), random.nextBoolean() ? number(0, 3) : number(0, 1000)};
            case 13:
                return new int[] {number(0, 1), number(0, 5)};
            case 14:
                return new int[] {object, number(0, 6)};
            case 15:
                return new int[] {object, number(0, 4), number(0, 2)};
            case 16:
                return new int[] {object, number(0, 3)};
            case 17:
                return new int[] {object, random.nextBoolean() ? number(1, y.object(object, 1) - 1) : number(1, 20), account()};
            case 18:
                return new int[] {number(0, 9)};
            case 19:
                return new int[0];
            default:
                return new int[] {object};
        }
    }

    private static Answer ask(Run x, int which, int[] a) {
        switch (which) {
            case 0: return x.edition(a[0], a[1], a[2], a[3]);
            case 1: return x.priceAt(a[0], a[1]);
            case 2: return x.cap(a[0], a[1]);
            case 3: return x.make(a[0], a[1], a[2], a[3]);
            case 4: return x.grow(a[0], a[1], a[2]);
            case 5: return x.shrink(a[0], a[1]);
            case 6: return x.pay(a[0], a[1], a[2]);
            case 7: return x.write(a[0], a[1], a[2]);
            case 8: return x.drop(a[0]);
            case 9: return x.back(a[0], a[1], a[2], a[3]);
            case 10: return x.digest(a[0]);
            case 11: return x.tick(a[0]);
            case 12: return x.weight(a[0], a[1]);
            case 13: return x.coins(a[0], a[1]);
            case 14: return x.object(a[0], a[1]);
            case 15: return x.layer(a[0], a[1], a[2]);
            case 16: return x.word(a[0], a[1]);
            case 17: return x.wouldGive(a[0], a[1], a[2]);
            case 18: return x.told(a[0]);
            default: return x.clear();
        }
    }

    private static int ask(PlainRents y, int which, int[] a) {
        switch (which) {
            case 0: return y.edition(a[0], a[1], a[2], a[3]);
            case 1: return y.priceAt(a[0], a[1]);
            case 2: return y.cap(a[0], a[1]);
            case 3: return y.make(a[0], a[1], a[2], a[3]);
            case 4: return y.grow(a[0], a[1], a[2]);
            case 5: return y.shrink(a[0], a[1]);
            case 6: return y.pay(a[0], a[1], a[2]);
            case 7: return y.write(a[0], a[1], a[2]);
            case 8: return y.drop(a[0]);
            case 9: return y.back(a[0], a[1], a[2], a[3]);
            case 10: return y.digest(a[0]);
            case 11: return y.tick(a[0]);
            case 12: return y.weight(a[0], a[1]);
            case 13: return y.coins(a[0], a[1]);
            case 14: return y.object(a[0], a[1]);
            case 15: return y.layer(a[0], a[1], a[2]);
            case 16: return y.word(a[0], a[1]);
            case 17: return y.wouldGive(a[0], a[1], a[2]);
            case 18: return y.told(a[0]);
            default: return y.clear();
        }
    }

    private static void compare(int run, Look look, PlainRents y, int which, int... a) {
        long got = look.ask(x -> ask(x, which, a));
        Check.due("at the end of run " + run + ": " + NAMES[which] + Arrays.toString(a), got, ask(y, which, a));
    }

    private static int ask(RentSizes x, int which, int[] a) {
        switch (which) {
            case 2: return x.cap(a[0], a[1]);
            case 10: return x.digest(a[0]);
            case 12: return x.weight(a[0], a[1]);
            case 13: return x.coins(a[0], a[1]);
            case 14: return x.object(a[0], a[1]);
            case 15: return x.layer(a[0], a[1], a[2]);
            case 16: return x.word(a[0], a[1]);
            default: return x.told(a[0]);
        }
    }

    /** Caps and weights come last: they are told only by a call that sets them. */
    private static void compareAll(int run, Look look, PlainRents y) {
        for (int what = 0; what <= 9; what++) {
            compare(run, look, y, 18, what);
        }
        for (int i = 0; i < y.told(1); i++) {
            compareObject(run, look, y, i);
        }
        for (int who = 0; who < 6; who++) {
            compare(run, look, y, 13, 0, who);
            compare(run, look, y, 13, 1, who);
            compare(run, look, y, 2, who, 1);
            compare(run, look, y, 12, who, 1);
        }
    }

    private static void compareObject(int run, Look look, PlainRents y, int i) {
        compare(run, look, y, 10, i);
        for (int what = 0; what <= 6; what++) {
            compare(run, look, y, 14, i, what);
        }
        for (int k = 0; k <= y.object(i, 4); k++) {
            for (int what = 0; what < 3; what++) {
                compare(run, look, y, 15, i, k, what);
            }
        }
        for (int k = 0; k < 4; k++) {
            compare(run, look, y, 16, i, k);
        }
    }
}
