import java.util.Arrays;
import java.util.NoSuchElementException;

/**
 * The style sheet of a document: properties that are given directly, by a style of characters, by a
 * style of paragraphs, or by the styles that these are based on; and the sets of directly given
 * ones, each kept once, whoever uses it, until nobody does.
 */
public final class StyleSheet {
    /** Stands for no style, no base, no value and no property alike, as in the document. */
    private static final int NONE = -1;

    private static final int PROPERTIES = 24;
    private static final int STYLES = 64;
    private static final int SETS = 256;
    private static final int CHARACTERS = 0;
    private static final int PARAGRAPHS = 1;
    private static final int EMPTY_SET = 0;

    private final Table styles;
    private final int[] kinds;
    private final int[] bases;
    private final int[] usuals;
    private final Table sets;
    private final boolean[] marked;

    /** The set that a call is about to make: one row for all calls, so that none makes its own. */
    private final int[] draft;

    public StyleSheet() {
        styles = new Table(STYLES);
        kinds = new int[STYLES];
        bases = new int[STYLES];
        usuals = new int[PROPERTIES];
        sets = new Table(SETS);
        sets.add(EMPTY_SET);
        marked = new boolean[SETS];
        draft = new int[PROPERTIES];
    }

    public int make(int kind, int base) throws IllegalArgumentException, IllegalStateException {
        if (kind != CHARACTERS && kind != PARAGRAPHS) {
            throw new IllegalArgumentException("no such kind");
        }
        requireNoneOrOfKind(base, kind);
        int style = styles.leastFree();
        if (style == NONE) {
            throw new IllegalStateException("no number left for a style");
        }
        styles.add(style);
        kinds[style] = kind;
        bases[style] = base;
        return style;
    }

    public int drop(int style) throws NoSuchElementException {
        requireStyle(style);
        int heirs = 0;
        for (int other = 0; other < STYLES; other++) {
            if (styles.has(other) && bases[other] == style) {
                bases[other] = bases[style];
                heirs++;
            }
        }
        styles.remove(style);
        return heirs;
    }

    public boolean rebase(int style, int base) throws NoSuchElementException, IllegalArgumentException {
        requireStyle(style);
        requireNoneOrOfKind(base, kinds[style]);
        if (isOnChain(style, base)) {
            return false;
        }
        bases[style] = base;
        return true;
    }

    public void own(int style, int property, int value) throws NoSuchElementException, IllegalArgumentException {
        requireStyle(style);
        requireProperty(property);
        requireNoneOrValue(property, value);
        styles.values[style][property] = value;
    }

    public int value(int style, int property) throws NoSuchElementException, IllegalArgumentException {
        requireStyle(style);
        requireProperty(property);
        return valueByChain(style, property);
    }

    public int giver(int style, int property) throws NoSuchElementException, IllegalArgumentException {
        requireStyle(style);
        requireProperty(property);
        return giverOnChain(style, property);
    }

    public int style(int style, int what) throws NoSuchElementException, IllegalArgumentException {
        requireStyle(style);
        switch (what) {
            case 0:
                return chainLength(style);
            case 1:
                return othersBuiltOn(style);
            case 2:
                return bases[style];
            case 3:
                return kinds[style];
            case 4:
                return styles.valuesIn(style);
            default:
                throw new IllegalArgumentException("nothing such is told of a style");
        }
    }

    public void usual(int property, int value) throws IllegalArgumentException {
        requireProperty(property);
        requireValue(property, value);
        usuals[property] = value;
    }

    public int with(int set, int property, int value)
            throws NoSuchElementException, IllegalArgumentException, IllegalStateException {
        requireSet(set);
        requireProperty(property);
        requireNoneOrValue(property, value);
        for (int p = 0; p < PROPERTIES; p++) {
            draft[p] = p == property ? value : sets.values[set][p];
        }
        return numberOfDraft();
    }

    public int over(int set, int other) throws NoSuchElementException, IllegalStateException {
        requireSet(set);
        requireSet(other);
        for (int p = 0; p < PROPERTIES; p++) {
            int above = sets.values[other][p];
            draft[p] = above != NONE ? above : sets.values[set][p];
        }
        return numberOfDraft();
    }

    public int lean(int set, int c, int q)
            throws NoSuchElementException, IllegalArgumentException, IllegalStateException {
        requireSet(set);
        requireNoneOrOfKind(c, CHARACTERS);
        requireNoneOrOfKind(q, PARAGRAPHS);
        for (int p = 0; p < PROPERTIES; p++) {
            int direct = sets.values[set][p];
            draft[p] = direct == resolvedByStyles(c, q, p) ? NONE : direct;
        }
        return numberOfDraft();
    }

    public int get(int set, int property) throws NoSuchElementException, IllegalArgumentException {
        requireSet(set);
        requireProperty(property);
        return sets.values[set][property];
    }

    public int size(int set) {
        return sets.has(set) ? sets.valuesIn(set) : NONE;
    }

    public int resolve(int set, int c, int q, int property)
            throws NoSuchElementException, IllegalArgumentException {
        requireSet(set);
        requireNoneOrOfKind(c, CHARACTERS);
        requireNoneOrOfKind(q, PARAGRAPHS);
        requireProperty(property);
        return resolved(set, c, q, property);
    }

    public int differ(int set, int other, int c, int q)
            throws NoSuchElementException, IllegalArgumentException {
        requireSet(set);
        requireSet(other);
        requireNoneOrOfKind(c, CHARACTERS);
        requireNoneOrOfKind(q, PARAGRAPHS);
        for (int p = 0; p < PROPERTIES; p++) {
            if (resolved(set, c, q, p) != resolved(other, c, q, p)) {
                return p;
            }
        }
        return NONE;
    }

    public int mark(int set) throws NoSuchElementException {
        requireSet(set);
        marked[set] = true;
        int marks = 0;
        for (int other = 0; other < SETS; other++) {
            if (marked[other]) {
                marks++;
            }
        }
        return marks;
    }

    public int sweep() {
        int swept = 0;
        for (int set = 0; set < SETS; set++) {
            if (set != EMPTY_SET && sets.has(set) && !marked[set]) {
                sets.remove(set);
                swept++;
            }
            marked[set] = false;
        }
        return swept;
    }

    public int count(int what) {
        switch (what) {
            case 0:
                return styles.howMany();
            case 1:
                return sets.howMany();
            case 2:
                return styles.valuesInAll();
            case 3:
                return sets.valuesInAll();
            case 4:
                return longestChain();
            default:
                return NONE;
        }
    }

    private void requireStyle(int style) {
        if (!styles.has(style)) {
            throw new NoSuchElementException("no such style");
        }
    }

    private void requireSet(int set) {
        if (!sets.has(set)) {
            throw new NoSuchElementException("no such set");
        }
    }

    private void requireNoneOrOfKind(int style, int kind) {
        if (style != NONE && !(styles.has(style) && kinds[style] == kind)) {
            throw new IllegalArgumentException("no such style of this kind");
        }
    }

    private static void requireProperty(int property) {
        if (property < 0 || property >= PROPERTIES) {
            throw new IllegalArgumentException("no such property");
        }
    }

    private static void requireNoneOrValue(int property, int value) {
        if (value != NONE) {
            requireValue(property, value);
        }
    }

    private static void requireValue(int property, int value) {
        if (value < 0 || value > greatest(property)) {
            throw new IllegalArgumentException("no such value of this property");
        }
    }

    private static int greatest(int property) {
        if (property < 8) {
            return 1;
        }
        return property < 16 ? 255 : 65535;
    }

    // The walks along a chain count their steps although no chain comes to a style twice, so that
    // each loop's end can be seen in its own lines; a chain that starts at NONE has no styles.

    private int giverOnChain(int style, int property) {
        int at = style;
        for (int steps = 0; steps < STYLES && styles.has(at); steps++) {
            if (styles.values[at][property] != NONE) {
                return at;
            }
            at = bases[at];
        }
        return NONE;
    }

    private int chainLength(int style) {
        int at = style;
        int length = 0;
        while (length < STYLES && styles.has(at)) {
            length++;
            at = bases[at];
        }
        return length;
    }

    private boolean isOnChain(int sought, int style) {
        int at = style;
        for (int steps = 0; steps < STYLES && styles.has(at); steps++) {
            if (at == sought) {
                return true;
            }
            at = bases[at];
        }
        return false;
    }

    private int othersBuiltOn(int style) {
        int others = 0;
        for (int other = 0; other < STYLES; other++) {
            if (other != style && isOnChain(style, other)) {
                others++;
            }
        }
        return others;
    }

    private int longestChain() {
        int longest = 0;
        for (int style = 0; style < STYLES; style++) {
            longest = Math.max(longest, chainLength(style));
        }
        return longest;
    }

    private int valueByChain(int style, int property) {
        int giver = giverOnChain(style, property);
        return giver == NONE ? NONE : styles.values[giver][property];
    }

    private int resolved(int set, int c, int q, int property) {
        int direct = sets.values[set][property];
        return direct != NONE ? direct : resolvedByStyles(c, q, property);
    }

    private int resolvedByStyles(int c, int q, int property) {
        int byCharacters = valueByChain(c, property);
        if (byCharacters != NONE) {
            return byCharacters;
        }
        int byParagraphs = valueByChain(q, property);
        return byParagraphs != NONE ? byParagraphs : usuals[property];
    }

    private int numberOfDraft() {
        int alike = sets.numberOf(draft);
        if (alike != NONE) {
            return alike;
        }
        int set = sets.leastFree();
        if (set == NONE) {
            throw new IllegalStateException("no number left for a set");
        }
        sets.add(set);
        System.arraycopy(draft, 0, sets.values[set], 0, PROPERTIES);
        return set;
    }

    /**
     * Numbers, some of which are there, each with a row of values of the properties, NONE where it
     * has no value. The row of a number that isn't there is empty, so that one that is added starts
     * without values. Only has() takes any number; the others take those that a caller has tested.
     */
    private static final class Table {
        private final boolean[] there;
        private final int[][] values;

        private Table(int numbers) {
            there = new boolean[numbers];
            values = new int[numbers][PROPERTIES];
            for (int number = 0; number < numbers; number++) {
                Arrays.fill(values[number], NONE);
            }
        }

        private boolean has(int number) {
            return number >= 0 && number < there.length && there[number];
        }

        private int leastFree() {
            for (int number = 0; number < there.length; number++) {
                if (!there[number]) {
                    return number;
                }
            }
            return NONE;
        }

        private void add(int number) {
            there[number] = true;
        }

        private void remove(int number) {
            there[number] = false;
            Arrays.fill(values[number], NONE);
        }

        private int howMany() {
            int many = 0;
            for (int number = 0; number < there.length; number++) {
                if (there[number]) {
                    many++;
                }
            }
            return many;
        }

        private int valuesIn(int number) {
            int many = 0;
            for (int property = 0; property < PROPERTIES; property++) {
                if (values[number][property] != NONE) {
                    many++;
                }
            }
            return many;
        }

        private int valuesInAll() {
            int many = 0;
            for (int number = 0; number < there.length; number++) {
                many += valuesIn(number);
            }
            return many;
        }

        private int numberOf(int[] row) {
            for (int number = 0; number < there.length; number++) {
                if (there[number] && isAlike(values[number], row)) {
                    return number;
                }
            }
            return NONE;
        }

        private static boolean isAlike(int[] row, int[] other) {
            for (int property = 0; property < PROPERTIES; property++) {
                if (row[property] != other[property]) {
                    return false;
                }
            }
            return true;
        }
    }
}
