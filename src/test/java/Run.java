import java.util.ArrayList;
import java.util.List;
import java.util.function.ToLongFunction;

/**
 * A run of calls on one new object. It keeps what was called, so that the same run can be made again where a test has to look
 * at all that stands, and it lets no test ask for more than the 512 calls of which something is promised.
 */
final class Run {
    static final int MOST_CALLS = 512;

    private final RentSizes x = new RentSizes();
    private final List<Call> calls = new ArrayList<>();
    private Answer last;

    Answer edition(int from, int price, int rent, int least) {
        return ask(x -> x.edition(from, price, rent, least), "edition", from, price, rent, least);
    }

    Answer priceAt(int height, int what) {
        return ask(x -> x.priceAt(height, what), "priceAt", height, what);
    }

    Answer cap(int account, int size) {
        return ask(x -> x.cap(account, size), "cap", account, size);
    }

    Answer make(int payer, int owner, int size, int heights) {
        return ask(x -> x.make(payer, owner, size, heights), "make", payer, owner, size, heights);
    }

    Answer grow(int object, int payer, int more) {
        return ask(x -> x.grow(object, payer, more), "grow", object, payer, more);
    }

    Answer shrink(int object, int less) {
        return ask(x -> x.shrink(object, less), "shrink", object, less);
    }

    Answer pay(int object, int payer, int heights) {
        return ask(x -> x.pay(object, payer, heights), "pay", object, payer, heights);
    }

    Answer write(int object, int k, int v) {
        return ask(x -> x.write(object, k, v), "write", object, k, v);
    }

    Answer drop(int object) {
        return ask(x -> x.drop(object), "drop", object);
    }

    Answer back(int object, int payer, int digest, int heights) {
        return ask(x -> x.back(object, payer, digest, heights), "back", object, payer, digest, heights);
    }

    Answer digest(int object) {
        return ask(x -> x.digest(object), "digest", object);
    }

    Answer tick(int n) {
        return ask(x -> x.tick(n), "tick", n);
    }

    Answer weight(int node, int w) {
        return ask(x -> x.weight(node, w), "weight", node, w);
    }

    Answer coins(int kind, int who) {
        return ask(x -> x.coins(kind, who), "coins", kind, who);
    }

    Answer object(int object, int what) {
        return ask(x -> x.object(object, what), "object", object, what);
    }

    Answer layer(int object, int k, int what) {
        return ask(x -> x.layer(object, k, what), "layer", object, k, what);
    }

    Answer word(int object, int k) {
        return ask(x -> x.word(object, k), "word", object, k);
    }

    Answer wouldGive(int object, int less, int account) {
        return ask(x -> x.wouldGive(object, less, account), "wouldGive", object, less, account);
    }

    Answer exact(long a, long b) {
        return ask(x -> x.exact(a, b), "exact", a, b);
    }

    Answer told(int what) {
        return ask(x -> x.told(what), "told", what);
    }

    Answer clear() {
        return ask(x -> x.clear(), "clear");
    }

    List<Call> calls() {
        return List.copyOf(calls);
    }

    /** Of an object: OWNER, SIZE, PAID, state, LAYERS, HELD and CHARGED, as many as are given. */
    void objectIs(int object, int... due) {
        for (int what = 0; what < due.length; what++) {
            object(object, what).is(due[what]);
        }
    }

    /** The layers of an object, the oldest first, each as bytes, price, from whom; and that there is none behind them. */
    void layersAre(int object, int[]... due) {
        object(object, 4).is(due.length);
        for (int k = 0; k < due.length; k++) {
            for (int what = 0; what < 3; what++) {
                layer(object, k, what).is(due[k][what]);
            }
        }
        layer(object, due.length, 0).is(-109);
    }

    void accountsAre(int... due) {
        for (int account = 0; account < due.length; account++) {
            coins(0, account).is(due[account]);
        }
    }

    void nodesAre(int... due) {
        for (int node = 0; node < due.length; node++) {
            coins(1, node).is(due[node]);
        }
    }

    private Answer ask(ToLongFunction<RentSizes> made, String name, long... arguments) {
        if (last != null) {
            last.mustNotBeARefusalUnseen();
        }
        if (calls.size() == MOST_CALLS) {
            Check.fault("a 513th call on one object: nothing is promised of it");
        }
        calls.add(Call.of(made, name, arguments));
        last = answered(made);
        return last;
    }

    private Answer answered(ToLongFunction<RentSizes> made) {
        try {
            return new Answer(calls, made.applyAsLong(x), false);
        } catch (ArithmeticException thrown) {
            return new Answer(calls, 0, true);
        }
    }
}
