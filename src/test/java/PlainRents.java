import java.math.BigInteger;
import java.util.ArrayList;
import java.util.Comparator;
import java.util.List;
import java.util.TreeMap;

/**
 * The document written out a second time, as slowly and plainly as can be: an object is a list of its bytes, layers are the
 * runs in that list, coins go one by one. It shares no line with RentSizes, so that the two can be held against each other.
 */
final class PlainRents {
    private static final int UNKNOWN = -101, OUTSIDE = -102, STATE = -103, PROOF = -104, CAPPED = -105, LACKS = -106, ROOM = -107, NONE = -109;

    private record Byte1(int price, int payer) {
    }

    private static final class Thing {
        int owner;
        int paid;
        String state = "LIVE";
        int[] words = new int[4];
        List<Byte1> bytes = new ArrayList<>();
        int digestWhenGone;

        boolean live() {
            return state.equals("LIVE");
        }

        List<List<Byte1>> runs() {
            List<List<Byte1>> runs = new ArrayList<>();
            for (Byte1 b : bytes) {
                if (runs.isEmpty() || !runs.get(runs.size() - 1).get(0).equals(b)) {
                    runs.add(new ArrayList<>());
                }
                runs.get(runs.size() - 1).add(b);
            }
            return runs;
        }
    }

    private long[] accounts;
    private long[] nodes;
    private int[] weights;
    private int[] caps;
    private long pool;
    private int height;
    private TreeMap<Integer, int[]> editions;
    private List<Thing> things = new ArrayList<>();

    PlainRents() {
        clear();
    }

    int clear() {
        int n = things.size();
        accounts = new long[] {100000, 100000, 100000, 100000, 100000, 100000};
        nodes = new long[5];
        weights = new int[5];
        caps = new int[] {1000, 1000, 1000, 1000, 1000, 1000};
        pool = 0;
        height = 0;
        editions = new TreeMap<>();
        editions.put(0, new int[] {10, 1, 8});
        things = new ArrayList<>();
        return n;
    }

    private boolean noAccount(int a) {
        return a < 0 || a > 5;
    }

    private boolean noThing(int i) {
        return i < 0 || i >= things.size();
    }

    private int[] now() {
        return editions.floorEntry(height).getValue();
    }

    private int charged(int size) {
        return size < now()[2] ? now()[2] : size;
    }

    private boolean capped(int owner, int more) {
        int all = more;
        int his = more;
        for (Thing t : things) {
            all += t.live() ? t.bytes.size() : 0;
            his += t.live() && t.owner == owner ? t.bytes.size() : 0;
        }
        return all > 5000 || his > caps[owner];
    }

    int edition(int from, int price, int rent, int least) {
        if (from < 0 || from > 100000 || price < 0 || price > 100 || rent < 0 || rent > 20 || least < 1 || least > 64) {
            return OUTSIDE;
        }
        if (from - height < 5 || from <= editions.lastKey()) {
            return STATE;
        }
        if (editions.size() == 10) {
            return ROOM;
        }
        editions.put(from, new int[] {price, rent, least});
        return editions.size();
    }

    int priceAt(int h, int what) {
        if (h < 0 || h > 100000 || what < 0 || what > 3) {
            return OUTSIDE;
        }
        return what == 3 ? editions.floorKey(h) : editions.floorEntry(h).getValue()[what];
    }

    int cap(int account, int size) {
        if (noAccount(account)) {
            return UNKNOWN;
        }
        if (size < 0 || size > 5000) {
            return OUTSIDE;
        }
        int was = caps[account];
        caps[account] = size;
        return was;
    }

    int make(int payer, int owner, int size, int heights) {
        if (noAccount(payer) || noAccount(owner)) {
            return UNKNOWN;
        }
        if (size < 1 || size > 1000 || heights < 1 || heights > 100) {
            return OUTSIDE;
        }
        if (capped(owner, size)) {
            return CAPPED;
        }
        long rent = (long) charged(size) * now()[1] * heights;
        long deposit = (long) size * now()[0];
        if (accounts[payer] < rent + deposit) {
            return LACKS;
        }
        if (things.size() == 60) {
            return ROOM;
        }
        Thing t = new Thing();
        t.owner = owner;
        t.paid = height + heights;
        take(t, payer, size);
        accounts[payer] -= rent;
        pool += rent;
        things.add(t);
        return things.size() - 1;
    }

    private void take(Thing t, int payer, int more) {
        for (int i = 0; i < more; i++) {
            t.bytes.add(new Byte1(now()[0], payer));
            accounts[payer] -= now()[0];
        }
    }

    int grow(int object, int payer, int more) {
        if (noThing(object) || noAccount(payer)) {
            return UNKNOWN;
        }
        Thing t = things.get(object);
        if (more < 1 || more > 999 || t.bytes.size() + more > 1000) {
            return OUTSIDE;
        }
        if (!t.live()) {
            return STATE;
        }
        if (capped(t.owner, more)) {
            return CAPPED;
        }
        long rent = 0;
        for (int h = height + 1; h <= t.paid; h++) {
            rent += (long) (charged(t.bytes.size() + more) - charged(t.bytes.size())) * now()[1];
        }
        long all = rent + (long) more * now()[0];
        if (accounts[payer] < all) {
            return LACKS;
        }
        Byte1 newest = t.bytes.get(t.bytes.size() - 1);
        if (t.runs().size() == 16 && !newest.equals(new Byte1(now()[0], payer))) {
            return ROOM;
        }
        take(t, payer, more);
        accounts[payer] -= rent;
        pool += rent;
        return (int) all;
    }

    int shrink(int object, int less) {
        if (noThing(object)) {
            return UNKNOWN;
        }
        Thing t = things.get(object);
        if (!t.live()) {
            return STATE;
        }
        if (less < 1 || less > t.bytes.size() - 1) {
            return OUTSIDE;
        }
        return give(t, less);
    }

    private int give(Thing t, int less) {
        int given = 0;
        for (int i = 0; i < less; i++) {
            Byte1 b = t.bytes.remove(t.bytes.size() - 1);
            accounts[b.payer] += b.price;
            given += b.price;
        }
        return given;
    }

    int pay(int object, int payer, int heights) {
        if (noThing(object) || noAccount(payer)) {
            return UNKNOWN;
        }
        if (heights < 1 || heights > 100) {
            return OUTSIDE;
        }
        Thing t = things.get(object);
        if (!t.live() || t.paid + heights > height + 400) {
            return STATE;
        }
        int rent = rentOf(t, payer, heights);
        t.paid += rent < 0 ? 0 : heights;
        return rent;
    }

    private int rentOf(Thing t, int payer, int heights) {
        long rent = (long) charged(t.bytes.size()) * now()[1] * heights;
        if (accounts[payer] < rent) {
            return LACKS;
        }
        accounts[payer] -= rent;
        pool += rent;
        return (int) rent;
    }

    int write(int object, int k, int v) {
        if (noThing(object)) {
            return UNKNOWN;
        }
        if (k < 0 || k > 3) {
            return OUTSIDE;
        }
        if (!things.get(object).live()) {
            return STATE;
        }
        things.get(object).words[k] = v;
        return 1;
    }

    int drop(int object) {
        if (noThing(object)) {
            return UNKNOWN;
        }
        Thing t = things.get(object);
        if (t.state.equals("GONE")) {
            return STATE;
        }
        t.digestWhenGone = digest(object);
        t.state = "GONE";
        return give(t, t.bytes.size());
    }

    int back(int object, int payer, int digest, int heights) {
        if (noThing(object) || noAccount(payer)) {
            return UNKNOWN;
        }
        if (heights < 1 || heights > 100) {
            return OUTSIDE;
        }
        Thing t = things.get(object);
        if (!t.state.equals("ARCHIVED")) {
            return STATE;
        }
        if (digest(object) != digest) {
            return PROOF;
        }
        if (capped(t.owner, t.bytes.size())) {
            return CAPPED;
        }
        int rent = rentOf(t, payer, height + heights - t.paid);
        if (rent >= 0) {
            t.state = "LIVE";
            t.paid = height + heights;
        }
        return rent;
    }

    int digest(int object) {
        if (noThing(object)) {
            return NONE;
        }
        Thing t = things.get(object);
        if (t.state.equals("GONE")) {
            return t.digestWhenGone;
        }
        BigInteger d = BigInteger.valueOf(t.bytes.size());
        for (int word : t.words) {
            d = d.multiply(BigInteger.valueOf(31)).add(BigInteger.valueOf(word));
        }
        long low = d.mod(BigInteger.ONE.shiftLeft(32)).longValueExact();
        return (int) (low ^ (low >> 13));
    }

    int tick(int n) {
        if (n < 1 || n > 100 || height + n > 100000) {
            return OUTSIDE;
        }
        int archived = 0;
        for (int i = 0; i < n; i++) {
            height++;
            for (Thing t : things) {
                if (t.live() && t.paid < height) {
                    t.state = "ARCHIVED";
                    archived++;
                }
            }
            share();
        }
        return archived;
    }

    private void share() {
        List<Integer> order = new ArrayList<>();
        int all = 0;
        for (int n = 0; n < 5; n++) {
            all += weights[n];
            if (weights[n] > 0) {
                order.add(n);
            }
        }
        if (all == 0) {
            return;
        }
        order.sort(Comparator.comparingInt((Integer n) -> -weights[n]).thenComparingInt(n -> n));
        long whole = pool;
        for (int n : order) {
            long part = whole * weights[n] / all;
            nodes[n] += part;
            pool -= part;
        }
        for (int turn = 0; pool > 0; turn++) {
            nodes[order.get(turn % order.size())]++;
            pool--;
        }
    }

    int weight(int node, int w) {
        if (node < 0 || node > 4) {
            return UNKNOWN;
        }
        if (w < 0 || w > 1000) {
            return OUTSIDE;
        }
        int was = weights[node];
        weights[node] = w;
        return was;
    }

    int coins(int kind, int who) {
        if (kind != 0 && kind != 1) {
            return OUTSIDE;
        }
        long[] row = kind == 0 ? accounts : nodes;
        return who < 0 || who >= row.length ? UNKNOWN : (int) row[who];
    }

    int object(int object, int what) {
        if (noThing(object)) {
            return UNKNOWN;
        }
        if (what < 0 || what > 6) {
            return OUTSIDE;
        }
        Thing t = things.get(object);
        boolean gone = t.state.equals("GONE");
        int state = gone ? 2 : t.live() ? 0 : 1;
        int held = t.bytes.stream().mapToInt(Byte1::price).sum();
        return new int[] {t.owner, t.bytes.size(), t.paid, state, t.runs().size(), held, gone ? 0 : charged(t.bytes.size())}[what];
    }

    int layer(int object, int k, int what) {
        if (noThing(object)) {
            return UNKNOWN;
        }
        if (what < 0 || what > 2) {
            return OUTSIDE;
        }
        List<List<Byte1>> runs = things.get(object).runs();
        if (k < 0 || k >= runs.size()) {
            return NONE;
        }
        Byte1 b = runs.get(k).get(0);
        return what == 0 ? runs.get(k).size() : what == 1 ? b.price : b.payer;
    }

    int word(int object, int k) {
        if (noThing(object)) {
            return UNKNOWN;
        }
        if (k < 0 || k > 3) {
            return OUTSIDE;
        }
        return things.get(object).live() ? things.get(object).words[k] : STATE;
    }

    int wouldGive(int object, int less, int account) {
        if (noThing(object) || noAccount(account)) {
            return UNKNOWN;
        }
        List<Byte1> bytes = things.get(object).bytes;
        if (!things.get(object).live()) {
            return STATE;
        }
        if (less < 1 || less >= bytes.size()) {
            return OUTSIDE;
        }
        return bytes.subList(bytes.size() - less, bytes.size()).stream().filter(b -> b.payer == account).mapToInt(Byte1::price).sum();
    }

    int told(int what) {
        int live = 0;
        int archived = 0;
        int sizes = 0;
        long held = 0;
        for (Thing t : things) {
            live += t.live() ? 1 : 0;
            archived += t.state.equals("ARCHIVED") ? 1 : 0;
            sizes += t.live() ? t.bytes.size() : 0;
            held += t.bytes.stream().mapToInt(Byte1::price).sum();
        }
        long toNodes = java.util.Arrays.stream(nodes).sum();
        long all = java.util.Arrays.stream(accounts).sum() + toNodes + held + pool;
        long[] told = {height, things.size(), live, archived, sizes, held, pool, all, editions.size(), toNodes};
        return what < 0 || what > 9 ? OUTSIDE : (int) told[what];
    }
}
