/** Style sheets that tests start from: each method makes a new one, always by the same calls. */
final class Sheets {
    private Sheets() {
    }

    /** All 64 styles, each based on the one before it, so that the chain of 63 is as long as can be. */
    static StyleSheet oneChain(int kind) {
        StyleSheet x = new StyleSheet();
        for (int style = 0; style < 64; style++) {
            x.make(kind, style - 1);
        }
        return x;
    }

    /** All 64 styles without base, the even ones of characters and the odd ones of paragraphs. */
    static StyleSheet fullOfStyles() {
        StyleSheet x = new StyleSheet();
        for (int style = 0; style < 64; style++) {
            x.make(style % 2, -1);
        }
        return x;
    }

    /** All 256 sets: n has property 16 = n - 1 alone, but 255 has property 0 = 1 alone. */
    static StyleSheet fullOfSets() {
        StyleSheet x = new StyleSheet();
        for (int set = 1; set < 255; set++) {
            x.with(0, 16, set - 1);
        }
        x.with(0, 0, 1);
        return x;
    }

    /**
     * Some of everything. Styles of characters 0 <- 4, of paragraphs 2 <- 3 <- 5, none has number 1;
     * sets 0, 1, 2 and 4, none has number 3; sets 0 and 2 are marked.
     */
    static StyleSheet mixed() {
        StyleSheet x = new StyleSheet();
        x.make(0, -1);
        x.make(0, 0);
        x.make(1, -1);
        x.make(1, 2);
        x.make(0, 1);
        x.make(1, 3);
        x.drop(1);
        x.own(0, 0, 1);
        x.own(0, 8, 5);
        x.own(2, 8, 6);
        x.own(3, 23, 65535);
        x.own(4, 16, 900);
        x.own(5, 0, 0);
        x.usual(9, 77);
        x.usual(17, 1234);
        x.with(0, 8, 5);
        x.with(1, 16, 3);
        x.with(0, 0, 1);
        x.with(2, 23, 7);
        x.mark(1);
        x.mark(2);
        x.mark(4);
        x.sweep();
        x.mark(2);
        x.mark(0);
        return x;
    }

    /**
     * No number is left of either table: the styles of fullOfStyles(), the set 2 that has properties
     * 0 = 1 and 1 = 1, and sets that have property 16 alone. As property 1 is usually 1, what is lean
     * of set 2 is a set that isn't there.
     */
    static StyleSheet full() {
        StyleSheet x = fullOfStyles();
        x.with(x.with(0, 0, 1), 1, 1);
        x.mark(2);
        x.sweep();
        for (int value = 0; value < 254; value++) {
            x.with(0, 16, value);
        }
        x.usual(1, 1);
        return x;
    }
}
