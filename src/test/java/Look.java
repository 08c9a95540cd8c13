import java.util.List;
import java.util.function.ToLongFunction;

/**
 * Reads what a run of calls has led to. Nothing is promised of an object after its 512th call, so where the questions are too
 * many for one object, a new one takes the same run of calls and is asked the rest.
 */
final class Look {
    private final List<Call> calls;
    private RentSizes x;
    private int used;

    Look(List<Call> calls) {
        if (calls.size() >= Run.MOST_CALLS) {
            throw new IllegalArgumentException("no call is left to look with");
        }
        this.calls = calls;
        this.used = Run.MOST_CALLS;
    }

    /** All that can be read, as one text, so that two states can be compared. */
    static String at(List<Call> calls) {
        return new Look(calls).all();
    }

    long ask(ToLongFunction<RentSizes> question) {
        if (used == Run.MOST_CALLS) {
            x = new RentSizes();
            for (Call call : calls) {
                call.again(x);
            }
            used = calls.size();
        }
        used++;
        return question.applyAsLong(x);
    }

    private String all() {
        StringBuilder all = new StringBuilder("told");
        for (int i = 0; i <= 9; i++) {
            int what = i;
            all.append(' ').append(ask(x -> x.told(what)));
        }
        editions(all);
        long objects = ask(x -> x.told(1));
        for (int i = 0; i < objects; i++) {
            object(i, all);
        }
        accountsAndNodes(all);
        return all.toString();
    }

    /** Caps and weights are told only by a call that sets them; that changes no other answer here. */
    private void accountsAndNodes(StringBuilder all) {
        for (int i = 0; i < 6; i++) {
            int account = i;
            all.append("; account ").append(ask(x -> x.coins(0, account))).append(' ').append(ask(x -> x.cap(account, 0)));
        }
        for (int i = 0; i < 5; i++) {
            int node = i;
            all.append("; node ").append(ask(x -> x.coins(1, node))).append(' ').append(ask(x -> x.weight(node, 0)));
        }
    }

    private void editions(StringBuilder all) {
        int height = 100000;
        for (int i = 0; i < 12 && height >= 0; i++) {
            int at = height;
            all.append("; edition");
            for (int k = 0; k < 3; k++) {
                int what = k;
                all.append(' ').append(ask(x -> x.priceAt(at, what)));
            }
            int from = (int) ask(x -> x.priceAt(at, 3));
            all.append(" from ").append(from);
            height = from - 1;
        }
    }

    private void object(int i, StringBuilder all) {
        all.append("; object ").append(ask(x -> x.digest(i)));
        for (int k = 0; k <= 6; k++) {
            int what = k;
            all.append(' ').append(ask(x -> x.object(i, what)));
        }
        for (int j = 0; j < 4; j++) {
            int k = j;
            all.append(" w").append(ask(x -> x.word(i, k)));
        }
        long layers = ask(x -> x.object(i, 4));
        for (int j = 0; j < layers; j++) {
            int k = j;
            all.append(" layer ").append(ask(x -> x.layer(i, k, 0))).append(' ').append(ask(x -> x.layer(i, k, 1)))
                    .append(' ').append(ask(x -> x.layer(i, k, 2)));
        }
    }
}
