import java.util.Arrays;

/**
 * Rents of objects by their sizes and heights: deposits, rents paid ahead, an archive, editions of
 * prices, caps and shares of nodes. README.md tells how to use it.
 */
public final class RentSizes {
    public static final int UNKNOWN = -101, OUTSIDE = -102, STATE = -103, PROOF = -104, CAPPED = -105, LACKS = -106, ROOM = -107, NONE = -109;

    private static final int ACCOUNTS = 6;
    private static final int FIRST_COINS = 100000;
    private static final int NODES = 5;
    private static final int MOST_WEIGHT = 1000;

    private static final int MOST_HEIGHT = 100000;
    private static final int MOST_TICKS = 100;

    private static final int MOST_EDITIONS = 10;
    private static final int TOLD_AHEAD = 5;
    private static final int MOST_PRICE = 100;
    private static final int MOST_RENT = 20;
    private static final int MOST_LEAST = 64;

    private static final int MOST_OBJECTS = 60;
    private static final int MOST_SIZE = 1000;
    private static final int MOST_LAYERS = 16;
    private static final int WORDS = 4;
    private static final int MOST_HEIGHTS = 100;
    private static final int MOST_AHEAD = 400;

    private static final int FIRST_CAP = 1000;
    private static final int CAP_OF_ALL = 5000;
    private static final int ANY_OWNER = -1;

    private static final int LIVE = 0;
    private static final int ARCHIVED = 1;
    private static final int GONE = 2;

    private final Editions editions = new Editions();
    private final Ledger ledger = new Ledger();
    private final int[] caps = new int[ACCOUNTS];
    private final Item[] items = new Item[MOST_OBJECTS];
    private int made;
    private int height;

    public RentSizes() {
        beginAnew();
    }

    public int edition(int from, int price, int rent, int least) {
        if (!within(from, 0, MOST_HEIGHT) || !within(price, 0, MOST_PRICE)
                || !within(rent, 0, MOST_RENT) || !within(least, 1, MOST_LEAST)) {
            return OUTSIDE;
        }
        if (from < height + TOLD_AHEAD || from <= editions.lastFrom()) {
            return STATE;
        }
        if (!editions.hasRoom()) {
            return ROOM;
        }
        editions.append(from, price, rent, least);
        return editions.count;
    }

    public int priceAt(int height, int what) {
        if (!within(height, 0, MOST_HEIGHT)) {
            return OUTSIDE;
        }
        switch (what) {
            case 0:
                return editions.priceOn(height);
            case 1:
                return editions.rentOn(height);
            case 2:
                return editions.leastOn(height);
            case 3:
                return editions.fromOn(height);
            default:
                return OUTSIDE;
        }
    }

    public int cap(int account, int size) {
        if (!isAccount(account)) {
            return UNKNOWN;
        }
        if (!within(size, 0, CAP_OF_ALL)) {
            return OUTSIDE;
        }
        int before = caps[account];
        caps[account] = size;
        return before;
    }

    public int make(int payer, int owner, int size, int heights) {
        if (!isAccount(payer) || !isAccount(owner)) {
            return UNKNOWN;
        }
        if (!within(size, 1, MOST_SIZE) || !within(heights, 1, MOST_HEIGHTS)) {
            return OUTSIDE;
        }
        if (!capsAllow(owner, size)) {
            return CAPPED;
        }
        int price = editions.priceOn(height);
        long deposit = (long) size * price;
        long rent = rentOf(chargedSize(size), heights);
        if (!ledger.canPay(payer, deposit + rent)) {
            return LACKS;
        }
        if (made >= MOST_OBJECTS) {
            return ROOM;
        }
        ledger.takeFrom(payer, deposit, rent);
        Item item = freshItem();
        item.begin(owner, size, height + heights);
        item.layers.put(size, price, payer);
        return made - 1;
    }

    public int grow(int object, int payer, int more) {
        Item item = find(object);
        if (item == null || !isAccount(payer)) {
            return UNKNOWN;
        }
        if (!within(more, 1, MOST_SIZE - 1) || item.sizeNow() + more > MOST_SIZE) {
            return OUTSIDE;
        }
        if (item.state != LIVE) {
            return STATE;
        }
        if (!capsAllow(item.owner, more)) {
            return CAPPED;
        }
        int price = editions.priceOn(height);
        long deposit = (long) more * price;
        int chargedMore = chargedSize(item.size + more) - chargedSize(item.size);
        long rent = rentOf(chargedMore, item.paid - height);
        if (!ledger.canPay(payer, deposit + rent)) {
            return LACKS;
        }
        if (!item.layers.hasRoomFor(price, payer)) {
            return ROOM;
        }
        item.layers.put(more, price, payer);
        item.size += more;
        return ledger.takeFrom(payer, deposit, rent);
    }

    public int shrink(int object, int less) {
        Item item = find(object);
        if (item == null) {
            return UNKNOWN;
        }
        int refusal = refusalToShrink(item, less);
        if (refusal != 0) {
            return refusal;
        }
        int given = giveBack(item, less);
        item.size -= less;
        return given;
    }

    public int pay(int object, int payer, int heights) {
        Item item = find(object);
        if (item == null || !isAccount(payer)) {
            return UNKNOWN;
        }
        if (!within(heights, 1, MOST_HEIGHTS)) {
            return OUTSIDE;
        }
        if (item.state != LIVE || item.paid + heights > height + MOST_AHEAD) {
            return STATE;
        }
        long rent = rentOf(chargedSize(item.size), heights);
        if (!ledger.canPay(payer, rent)) {
            return LACKS;
        }
        item.paid += heights;
        return ledger.takeFrom(payer, 0, rent);
    }

    public int write(int object, int k, int v) {
        Item item = find(object);
        if (item == null) {
            return UNKNOWN;
        }
        if (!within(k, 0, WORDS - 1)) {
            return OUTSIDE;
        }
        if (item.state != LIVE) {
            return STATE;
        }
        item.words[k] = v;
        return 1;
    }

    public int drop(int object) {
        Item item = find(object);
        if (item == null) {
            return UNKNOWN;
        }
        if (item.state == GONE) {
            return STATE;
        }
        int given = giveBack(item, item.size);
        item.state = GONE;
        return given;
    }

    public int back(int object, int payer, int digest, int heights) {
        Item item = find(object);
        if (item == null || !isAccount(payer)) {
            return UNKNOWN;
        }
        if (!within(heights, 1, MOST_HEIGHTS)) {
            return OUTSIDE;
        }
        if (item.state != ARCHIVED) {
            return STATE;
        }
        if (digest != item.sumUp()) {
            return PROOF;
        }
        if (!capsAllow(item.owner, item.size)) {
            return CAPPED;
        }
        long rent = rentOf(chargedSize(item.size), height - item.paid + heights);
        if (!ledger.canPay(payer, rent)) {
            return LACKS;
        }
        item.state = LIVE;
        item.paid = height + heights;
        return ledger.takeFrom(payer, 0, rent);
    }

    public int digest(int object) {
        Item item = find(object);
        return item == null ? NONE : item.sumUp();
    }

    public int tick(int n) {
        if (!within(n, 1, MOST_TICKS) || height + n > MOST_HEIGHT) {
            return OUTSIDE;
        }
        int archived = 0;
        for (int i = 0; i < n; i++) {
            height++;
            archived += archiveUnpaid();
            ledger.sharePool();
        }
        return archived;
    }

    public int weight(int node, int w) {
        if (!isNode(node)) {
            return UNKNOWN;
        }
        if (!within(w, 0, MOST_WEIGHT)) {
            return OUTSIDE;
        }
        int before = ledger.weights[node];
        ledger.weights[node] = w;
        return before;
    }

    public int coins(int kind, int who) {
        switch (kind) {
            case 0:
                return isAccount(who) ? ledger.accounts[who] : UNKNOWN;
            case 1:
                return isNode(who) ? ledger.nodes[who] : UNKNOWN;
            default:
                return OUTSIDE;
        }
    }

    public int object(int object, int what) {
        Item item = find(object);
        if (item == null) {
            return UNKNOWN;
        }
        switch (what) {
            case 0:
                return item.owner;
            case 1:
                return item.sizeNow();
            case 2:
                return item.paid;
            case 3:
                return item.state;
            case 4:
                return item.layers.count;
            case 5:
                return item.layers.worth();
            case 6:
                return item.state == GONE ? 0 : chargedSize(item.size);
            default:
                return OUTSIDE;
        }
    }

    public int layer(int object, int k, int what) {
        Item item = find(object);
        if (item == null) {
            return UNKNOWN;
        }
        if (!within(what, 0, 2)) {
            return OUTSIDE;
        }
        if (!item.layers.has(k)) {
            return NONE;
        }
        switch (what) {
            case 0:
                return item.layers.bytes[k];
            case 1:
                return item.layers.prices[k];
            default:
                return item.layers.payers[k];
        }
    }

    public int word(int object, int k) {
        Item item = find(object);
        if (item == null) {
            return UNKNOWN;
        }
        if (!within(k, 0, WORDS - 1)) {
            return OUTSIDE;
        }
        return item.state == LIVE ? item.words[k] : STATE;
    }

    public int wouldGive(int object, int less, int account) {
        Item item = find(object);
        if (item == null || !isAccount(account)) {
            return UNKNOWN;
        }
        int refusal = refusalToShrink(item, less);
        return refusal != 0 ? refusal : item.layers.worthTo(account, less);
    }

    public long exact(long a, long b) throws ArithmeticException {
        if (a == 0 || b == 0) {
            return 0;
        }
        // The division below wraps for this pair alone and would not show that the product did not fit.
        boolean wraps = a == Long.MIN_VALUE && b == -1;
        long product = a * b;
        if (wraps || product / b != a) {
            throw new ArithmeticException("the product does not go into 64 bits");
        }
        return product;
    }

    public int told(int what) {
        switch (what) {
            case 0:
                return height;
            case 1:
                return made;
            case 2:
                return countOf(LIVE);
            case 3:
                return countOf(ARCHIVED);
            case 4:
                return liveSizes(ANY_OWNER);
            case 5:
                return ledger.held;
            case 6:
                return ledger.pool;
            case 7:
                return ledger.allCoins();
            case 8:
                return editions.count;
            case 9:
                return ledger.paidToNodes;
            default:
                return OUTSIDE;
        }
    }

    public int clear() {
        int before = made;
        beginAnew();
        return before;
    }

    private void beginAnew() {
        editions.reset();
        ledger.reset();
        Arrays.fill(caps, FIRST_CAP);
        made = 0;
        height = 0;
    }

    private static boolean within(int number, int least, int most) {
        return number >= least && number <= most;
    }

    private static boolean isAccount(int account) {
        return within(account, 0, ACCOUNTS - 1);
    }

    private static boolean isNode(int node) {
        return within(node, 0, NODES - 1);
    }

    private Item find(int number) {
        return within(number, 0, made - 1) ? items[number] : null;
    }

    /** The next free item; what a clear() has left is used again, so that runs stay small. */
    private Item freshItem() {
        if (items[made] == null) {
            items[made] = new Item();
        }
        return items[made++];
    }

    private int chargedSize(int size) {
        return Math.max(size, editions.leastOn(height));
    }

    private long rentOf(int bytes, int heights) {
        return (long) bytes * editions.rentOn(height) * heights;
    }

    private boolean capsAllow(int owner, int more) {
        return liveSizes(ANY_OWNER) + more <= CAP_OF_ALL && liveSizes(owner) + more <= caps[owner];
    }

    private int liveSizes(int owner) {
        int sum = 0;
        for (int i = 0; i < made; i++) {
            Item item = items[i];
            if (item.state == LIVE && (owner == ANY_OWNER || owner == item.owner)) {
                sum += item.size;
            }
        }
        return sum;
    }

    private int countOf(int state) {
        int count = 0;
        for (int i = 0; i < made; i++) {
            if (items[i].state == state) {
                count++;
            }
        }
        return count;
    }

    private int archiveUnpaid() {
        int archived = 0;
        for (int i = 0; i < made; i++) {
            Item item = items[i];
            if (item.state == LIVE && item.paid < height) {
                item.state = ARCHIVED;
                archived++;
            }
        }
        return archived;
    }

    /** STATE stands ahead of OUTSIDE here, as the promises of shrink and wouldGive ask; 0 is no refusal. */
    private static int refusalToShrink(Item item, int less) {
        if (item.state != LIVE) {
            return STATE;
        }
        return within(less, 1, item.size - 1) ? 0 : OUTSIDE;
    }

    private int giveBack(Item item, int less) {
        int given = 0;
        for (int account = 0; account < ACCOUNTS; account++) {
            given += ledger.giveTo(account, item.layers.worthTo(account, less));
        }
        item.layers.remove(less);
        return given;
    }

    /** The editions told so far, the oldest first; each holds until the next one begins. */
    private static final class Editions {
        private final int[] froms = new int[MOST_EDITIONS];
        private final int[] prices = new int[MOST_EDITIONS];
        private final int[] rents = new int[MOST_EDITIONS];
        private final int[] leasts = new int[MOST_EDITIONS];
        private int count;

        /** Edition 0 is in force from the start, so that every height has one. */
        void reset() {
            count = 0;
            append(0, 10, 1, 8);
        }

        boolean hasRoom() {
            return count < MOST_EDITIONS;
        }

        void append(int from, int price, int rent, int least) {
            if (count < MOST_EDITIONS) {
                froms[count] = from;
                prices[count] = price;
                rents[count] = rent;
                leasts[count] = least;
                count++;
            }
        }

        int lastFrom() {
            return count > 0 ? froms[count - 1] : 0;
        }

        int priceOn(int height) {
            return prices[holding(height)];
        }

        int rentOn(int height) {
            return rents[holding(height)];
        }

        int leastOn(int height) {
            return leasts[holding(height)];
        }

        int fromOn(int height) {
            return froms[holding(height)];
        }

        private int holding(int height) {
            for (int i = count - 1; i > 0; i--) {
                if (froms[i] <= height) {
                    return i;
                }
            }
            return 0;
        }
    }

    /** All coins there are: every change moves them from one place to another. */
    private static final class Ledger {
        private final int[] accounts = new int[ACCOUNTS];
        private final int[] nodes = new int[NODES];
        private final int[] weights = new int[NODES];
        private int held;
        private int pool;
        private int paidToNodes;

        void reset() {
            Arrays.fill(accounts, FIRST_COINS);
            Arrays.fill(nodes, 0);
            Arrays.fill(weights, 0);
            held = 0;
            pool = 0;
            paidToNodes = 0;
        }

        boolean canPay(int payer, long coins) {
            return coins <= accounts[payer];
        }

        /** To be asked only behind canPay: the sum then fits an int. */
        int takeFrom(int payer, long deposit, long rent) {
            int coins = (int) (deposit + rent);
            accounts[payer] -= coins;
            held += (int) deposit;
            pool += (int) rent;
            return coins;
        }

        int giveTo(int account, int coins) {
            held -= coins;
            accounts[account] += coins;
            return coins;
        }

        void sharePool() {
            int allWeights = sumOf(weights);
            if (allWeights <= 0) {
                return;
            }
            int whole = pool;
            for (int node = 0; node < NODES; node++) {
                payNode(node, (int) ((long) whole * weights[node] / allWeights));
            }
            // Each cut loses less than one coin, so the rest is used up in the first round.
            int rest = pool;
            for (int node = 0; node < NODES; node++) {
                if (weights[node] > 0 && rankOf(node) < rest) {
                    payNode(node, 1);
                }
            }
        }

        int allCoins() {
            return sumOf(accounts) + sumOf(nodes) + held + pool;
        }

        private void payNode(int node, int coins) {
            pool -= coins;
            nodes[node] += coins;
            paidToNodes += coins;
        }

        /** How many nodes come before this one: those with a greater weight, of like ones those with a lesser number. */
        private int rankOf(int node) {
            int before = 0;
            for (int other = 0; other < NODES; other++) {
                if (weights[other] > weights[node] || (weights[other] == weights[node] && other < node)) {
                    before++;
                }
            }
            return before;
        }

        private static int sumOf(int[] numbers) {
            int sum = 0;
            for (int i = 0; i < numbers.length; i++) {
                sum += numbers[i];
            }
            return sum;
        }
    }

    /** One object of the document: its size and words outlive a drop, because its digest does. */
    private static final class Item {
        private final int[] words = new int[WORDS];
        private final Layers layers = new Layers();
        private int owner;
        private int size;
        private int paid;
        private int state;

        void begin(int owner, int size, int paid) {
            this.owner = owner;
            this.size = size;
            this.paid = paid;
            state = LIVE;
            Arrays.fill(words, 0);
            layers.count = 0;
        }

        int sizeNow() {
            return state == GONE ? 0 : size;
        }

        int sumUp() {
            int d = size;
            for (int k = 0; k < WORDS; k++) {
                d = 31 * d + words[k];
            }
            return d ^ (d >>> 13);
        }
    }

    /** The bytes of one object in the order in which they came, the newest layer last. */
    private static final class Layers {
        private final int[] bytes = new int[MOST_LAYERS];
        private final int[] prices = new int[MOST_LAYERS];
        private final int[] payers = new int[MOST_LAYERS];
        private int count;

        boolean has(int k) {
            return within(k, 0, count - 1);
        }

        boolean hasRoomFor(int price, int payer) {
            return count < MOST_LAYERS || joinsNewest(price, payer);
        }

        void put(int more, int price, int payer) {
            if (joinsNewest(price, payer)) {
                bytes[count - 1] += more;
            } else if (count < MOST_LAYERS) {
                bytes[count] = more;
                prices[count] = price;
                payers[count] = payer;
                count++;
            }
        }

        void remove(int less) {
            int left = less;
            for (int k = count - 1; k >= 0 && left > 0; k--) {
                int going = Math.min(left, bytes[k]);
                bytes[k] -= going;
                left -= going;
                if (bytes[k] == 0) {
                    count = k;
                }
            }
        }

        /** What one account would get for the newest bytes. */
        int worthTo(int account, int less) {
            int coins = 0;
            int left = less;
            for (int k = count - 1; k >= 0 && left > 0; k--) {
                int going = Math.min(left, bytes[k]);
                left -= going;
                if (payers[k] == account) {
                    coins += going * prices[k];
                }
            }
            return coins;
        }

        int worth() {
            int coins = 0;
            for (int k = 0; k < count; k++) {
                coins += bytes[k] * prices[k];
            }
            return coins;
        }

        private boolean joinsNewest(int price, int payer) {
            return count > 0 && prices[count - 1] == price && payers[count - 1] == payer;
        }
    }
}
