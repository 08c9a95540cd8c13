/** All that can be read of an object, as one text, so that two states can be compared. */
final class Picture {
    private Picture() {
    }

    static String of(RentSizes x) {
        StringBuilder all = new StringBuilder("told");
        for (int what = 0; what <= 9; what++) {
            all.append(' ').append(x.told(what));
        }
        accountsAndNodes(x, all);
        editions(x, all);
        for (int i = 0; i < x.told(1); i++) {
            object(x, i, all);
        }
        return all.toString();
    }

    /** Caps and weights are told only by a call that sets them: each is set back at once. */
    private static void accountsAndNodes(RentSizes x, StringBuilder all) {
        for (int a = 0; a < 6; a++) {
            int cap = x.cap(a, 0);
            x.cap(a, cap);
            all.append("; account ").append(x.coins(0, a)).append(' ').append(cap);
        }
        for (int n = 0; n < 5; n++) {
            int weight = x.weight(n, 0);
            x.weight(n, weight);
            all.append("; node ").append(x.coins(1, n)).append(' ').append(weight);
        }
    }

    private static void editions(RentSizes x, StringBuilder all) {
        for (int h = 100000; h >= 0; h = x.priceAt(h, 3) - 1) {
            all.append("; edition");
            for (int what = 0; what < 4; what++) {
                all.append(' ').append(x.priceAt(h, what));
            }
        }
    }

    private static void object(RentSizes x, int i, StringBuilder all) {
        all.append("; object ").append(x.digest(i));
        for (int what = 0; what <= 6; what++) {
            all.append(' ').append(x.object(i, what));
        }
        for (int k = 0; k < 4; k++) {
            all.append(" w").append(x.word(i, k));
        }
        for (int k = 0; k < x.object(i, 4); k++) {
            all.append(" layer ").append(x.layer(i, k, 0)).append(' ').append(x.layer(i, k, 1)).append(' ').append(x.layer(i, k, 2));
        }
    }
}
