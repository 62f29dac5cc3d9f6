/** Each promise of the document: ordinary inputs, the edges that it names, and wrong inputs. */
final class PromiseTest extends Due {
    private static final int[] FAR = {LOW, -2, HIGH};

    public static void main(String[] args) {
        PromiseTest test = new PromiseTest();
        test.newObject();
        test.make();
        test.makeAll();
        test.drop();
        test.dropForgets();
        test.rebase();
        test.rebaseRefuses();
        test.own();
        test.ownEdges();
        test.value();
        test.giver();
        test.style();
        test.usual();
        test.with();
        test.withRefuses();
        test.noSetLeft();
        test.over();
        test.lean();
        test.leanRefuses();
        test.get();
        test.size();
        test.resolve();
        test.resolveRefuses();
        test.differ();
        test.differRefuses();
        test.mark();
        test.sweep();
        test.count();
        test.leastStyleOnOthers();
        test.objectsAreApart();
        test.end();
    }

    private void newObject() {
        promise("1 a new object");
        StyleSheet x = new StyleSheet();
        answers(0, () -> x.count(0));
        answers(1, () -> x.count(1));
        answers(0, () -> x.count(2));
        answers(0, () -> x.count(3));
        answers(0, () -> x.count(4));
        answers(0, () -> x.size(0));
        answers(-1, () -> x.size(1));
        answers(-1, () -> x.size(255));
        for (int property = 0; property < 24; property++) {
            int p = property;
            answers(0, () -> x.resolve(0, -1, -1, p));
            answers(-1, () -> x.get(0, p));
        }
        for (int number = 0; number < 64; number++) {
            int style = number;
            refuses(NO_ELEMENT, () -> x.style(style, 0));
        }
        answers(1, () -> x.mark(0));
        answers(0, () -> x.sweep());
    }

    private void make() {
        promise("2 make");
        StyleSheet x = new StyleSheet();
        answers(0, () -> x.make(0, -1));
        answers(1, () -> x.make(1, -1));
        answers(2, () -> x.make(0, 0));
        answers(3, () -> x.make(1, 1));
        answers(0, () -> x.style(2, 2));
        answers(0, () -> x.style(2, 3));
        answers(0, () -> x.style(2, 4));
        answers(1, () -> x.style(3, 2));
        answers(1, () -> x.style(3, 3));
        refuses(ARGUMENT, () -> x.make(2, -1));
        refuses(ARGUMENT, () -> x.make(-1, -1));
        refuses(ARGUMENT, () -> x.make(LOW, -1));
        refuses(ARGUMENT, () -> x.make(HIGH, -1));
        refuses(ARGUMENT, () -> x.make(0, 1));
        refuses(ARGUMENT, () -> x.make(1, 0));
        refuses(ARGUMENT, () -> x.make(0, 4));
        refuses(ARGUMENT, () -> x.make(0, 64));
        for (int far : FAR) {
            refuses(ARGUMENT, () -> x.make(0, far));
            refuses(ARGUMENT, () -> x.make(1, far));
        }
        answers(4, () -> x.count(0));
        answers(4, () -> x.make(0, 2));
        answers(0, () -> x.drop(4));
        answers(0, () -> x.drop(2));
        answers(2, () -> x.make(1, 3));
        answers(4, () -> x.make(1, 2));
        answers(5, () -> x.make(1, -1));
    }

    private void makeAll() {
        promise("2 make, all numbers given");
        StyleSheet x = new StyleSheet();
        for (int number = 0; number < 64; number++) {
            int n = number;
            answers(n, () -> x.make(n % 2, -1));
        }
        refuses(STATE, () -> x.make(0, -1));
        refuses(STATE, () -> x.make(1, 63));
        refuses(ARGUMENT, () -> x.make(0, 63));
        refuses(ARGUMENT, () -> x.make(2, -1));
        refuses(ARGUMENT, () -> x.make(0, 64));
        answers(64, () -> x.count(0));
        answers(0, () -> x.drop(40));
        answers(40, () -> x.make(1, 63));
        refuses(STATE, () -> x.make(1, -1));
        answers(63, () -> x.style(40, 2));
    }

    private void drop() {
        promise("3 drop");
        StyleSheet x = new StyleSheet();
        x.make(1, -1);
        x.make(1, 0);
        x.make(1, 1);
        x.make(1, 1);
        x.make(1, 2);
        answers(2, () -> x.drop(1));
        answers(0, () -> x.style(2, 2));
        answers(0, () -> x.style(3, 2));
        answers(2, () -> x.style(4, 2));
        answers(3, () -> x.style(4, 0));
        answers(2, () -> x.drop(0));
        answers(-1, () -> x.style(2, 2));
        answers(-1, () -> x.style(3, 2));
        answers(0, () -> x.drop(4));
        answers(2, () -> x.count(0));
        refuses(NO_ELEMENT, () -> x.drop(0));
        refuses(NO_ELEMENT, () -> x.drop(4));
        refuses(NO_ELEMENT, () -> x.drop(-1));
        refuses(NO_ELEMENT, () -> x.drop(64));
        for (int far : FAR) {
            refuses(NO_ELEMENT, () -> x.drop(far));
        }
        answers(2, () -> x.count(0));
    }

    private void dropForgets() {
        promise("3 drop, what is gone");
        StyleSheet x = new StyleSheet();
        x.make(0, -1);
        x.make(0, 0);
        x.own(0, 3, 1);
        x.own(0, 20, 500);
        answers(500, () -> x.value(1, 20));
        answers(1, () -> x.drop(0));
        answers(-1, () -> x.value(1, 20));
        answers(0, () -> x.count(2));
        answers(0, () -> x.make(1, -1));
        answers(0, () -> x.style(0, 4));
        answers(-1, () -> x.value(0, 20));
        answers(0, () -> x.style(0, 1));
        answers(-1, () -> x.style(1, 2));
    }

    private void rebase() {
        promise("4 rebase");
        StyleSheet x = new StyleSheet();
        x.make(1, -1);
        x.make(1, 0);
        x.make(1, 1);
        x.make(0, -1);
        x.own(0, 8, 7);
        is(true, () -> x.rebase(2, 1));
        answers(1, () -> x.style(2, 2));
        is(false, () -> x.rebase(0, 2));
        is(false, () -> x.rebase(0, 1));
        is(false, () -> x.rebase(0, 0));
        is(false, () -> x.rebase(1, 2));
        answers(-1, () -> x.style(0, 2));
        answers(0, () -> x.style(1, 2));
        is(true, () -> x.rebase(2, 0));
        answers(0, () -> x.style(2, 2));
        is(true, () -> x.rebase(1, 2));
        answers(3, () -> x.style(1, 0));
        answers(7, () -> x.value(1, 8));
        is(true, () -> x.rebase(2, -1));
        answers(-1, () -> x.value(1, 8));
        is(true, () -> x.rebase(2, -1));
        is(true, () -> x.rebase(0, 1));
        answers(3, () -> x.style(0, 0));
        answers(-1, () -> x.style(2, 2));
    }

    private void rebaseRefuses() {
        promise("4 rebase, wrong inputs");
        StyleSheet x = new StyleSheet();
        x.make(1, -1);
        x.make(0, -1);
        x.make(1, 0);
        refuses(ARGUMENT, () -> x.rebase(0, 1));
        refuses(ARGUMENT, () -> x.rebase(1, 0));
        refuses(ARGUMENT, () -> x.rebase(2, 3));
        refuses(ARGUMENT, () -> x.rebase(2, 64));
        refuses(NO_ELEMENT, () -> x.rebase(3, 0));
        refuses(NO_ELEMENT, () -> x.rebase(3, 3));
        refuses(NO_ELEMENT, () -> x.rebase(-1, -1));
        refuses(NO_ELEMENT, () -> x.rebase(64, 64));
        for (int far : FAR) {
            refuses(ARGUMENT, () -> x.rebase(2, far));
            refuses(NO_ELEMENT, () -> x.rebase(far, far));
        }
        answers(0, () -> x.style(2, 2));
        answers(-1, () -> x.style(0, 2));
        answers(-1, () -> x.style(1, 2));
    }

    private void own() {
        promise("5 own");
        StyleSheet x = new StyleSheet();
        x.make(0, -1);
        passes(() -> x.own(0, 0, 1));
        passes(() -> x.own(0, 0, 0));
        answers(0, () -> x.value(0, 0));
        answers(1, () -> x.style(0, 4));
        passes(() -> x.own(0, 23, 9));
        answers(2, () -> x.style(0, 4));
        passes(() -> x.own(0, 0, -1));
        answers(-1, () -> x.value(0, 0));
        answers(9, () -> x.value(0, 23));
        answers(1, () -> x.style(0, 4));
        passes(() -> x.own(0, 0, -1));
        answers(1, () -> x.style(0, 4));
        refuses(ARGUMENT, () -> x.own(0, 24, 0));
        refuses(ARGUMENT, () -> x.own(0, -1, 0));
        refuses(ARGUMENT, () -> x.own(0, 24, -1));
        refuses(ARGUMENT, () -> x.own(0, 23, 65536));
        refuses(NO_ELEMENT, () -> x.own(1, 0, 0));
        refuses(NO_ELEMENT, () -> x.own(-1, 24, 0));
        refuses(NO_ELEMENT, () -> x.own(64, 0, 2));
        for (int far : FAR) {
            refuses(ARGUMENT, () -> x.own(0, 23, far));
            refuses(ARGUMENT, () -> x.own(0, far, 0));
            refuses(NO_ELEMENT, () -> x.own(far, far, far));
        }
        answers(9, () -> x.value(0, 23));
        answers(1, () -> x.count(2));
    }

    private void ownEdges() {
        promise("5 own, greatest values");
        StyleSheet x = new StyleSheet();
        x.make(1, -1);
        for (int property = 0; property < 24; property++) {
            int p = property;
            int greatest = greatest(p);
            passes(() -> x.own(0, p, greatest));
            refuses(ARGUMENT, () -> x.own(0, p, greatest + 1));
            refuses(ARGUMENT, () -> x.own(0, p, -2));
            answers(greatest, () -> x.value(0, p));
            passes(() -> x.own(0, p, 0));
            answers(0, () -> x.value(0, p));
        }
        answers(24, () -> x.style(0, 4));
    }

    private static int greatest(int property) {
        return property <= 7 ? 1 : property <= 15 ? 255 : 65535;
    }

    private void value() {
        promise("6 value");
        StyleSheet x = new StyleSheet();
        x.make(0, -1);
        x.make(0, 0);
        x.make(0, 1);
        x.own(0, 10, 5);
        x.own(1, 10, 0);
        x.own(0, 11, 6);
        x.usual(12, 99);
        answers(0, () -> x.value(2, 10));
        answers(0, () -> x.value(1, 10));
        answers(5, () -> x.value(0, 10));
        answers(6, () -> x.value(2, 11));
        answers(-1, () -> x.value(2, 12));
        passes(() -> x.own(2, 10, 200));
        answers(200, () -> x.value(2, 10));
        answers(0, () -> x.value(1, 10));
        refuses(ARGUMENT, () -> x.value(2, 24));
        refuses(ARGUMENT, () -> x.value(2, -1));
        refuses(NO_ELEMENT, () -> x.value(3, 0));
        refuses(NO_ELEMENT, () -> x.value(3, 24));
        refuses(NO_ELEMENT, () -> x.value(-1, 0));
        refuses(NO_ELEMENT, () -> x.value(64, 0));
        for (int far : FAR) {
            refuses(ARGUMENT, () -> x.value(2, far));
            refuses(NO_ELEMENT, () -> x.value(far, far));
        }
    }

    private void giver() {
        promise("7 giver");
        StyleSheet x = new StyleSheet();
        for (int number = 0; number < 64; number++) {
            x.make(1, number - 1);
        }
        x.own(0, 16, 1000);
        x.own(30, 17, 0);
        answers(0, () -> x.giver(63, 16));
        answers(1000, () -> x.value(63, 16));
        answers(0, () -> x.giver(0, 16));
        answers(30, () -> x.giver(63, 17));
        answers(30, () -> x.giver(30, 17));
        answers(-1, () -> x.giver(29, 17));
        answers(-1, () -> x.giver(63, 18));
        passes(() -> x.own(31, 16, 1000));
        answers(31, () -> x.giver(63, 16));
        answers(0, () -> x.giver(30, 16));
        passes(() -> x.usual(18, 3));
        answers(-1, () -> x.giver(63, 18));
        answers(1, () -> x.drop(20));
        refuses(ARGUMENT, () -> x.giver(0, 24));
        refuses(ARGUMENT, () -> x.giver(0, -1));
        refuses(NO_ELEMENT, () -> x.giver(20, 0));
        refuses(NO_ELEMENT, () -> x.giver(64, 24));
        refuses(NO_ELEMENT, () -> x.giver(-1, 24));
        for (int far : FAR) {
            refuses(ARGUMENT, () -> x.giver(0, far));
            refuses(NO_ELEMENT, () -> x.giver(far, far));
        }
    }

    private void style() {
        promise("8 style");
        StyleSheet x = new StyleSheet();
        x.make(0, -1);
        x.make(0, 0);
        x.make(0, 0);
        x.make(0, 1);
        x.make(1, -1);
        x.own(1, 5, 0);
        x.own(1, 6, 1);
        x.own(1, 20, 7);
        answers(1, () -> x.style(0, 0));
        answers(2, () -> x.style(1, 0));
        answers(3, () -> x.style(3, 0));
        answers(3, () -> x.style(0, 1));
        answers(1, () -> x.style(1, 1));
        answers(0, () -> x.style(2, 1));
        answers(0, () -> x.style(4, 1));
        answers(-1, () -> x.style(0, 2));
        answers(1, () -> x.style(3, 2));
        answers(0, () -> x.style(0, 3));
        answers(1, () -> x.style(4, 3));
        answers(3, () -> x.style(1, 4));
        answers(0, () -> x.style(3, 4));
        refuses(ARGUMENT, () -> x.style(0, 5));
        refuses(ARGUMENT, () -> x.style(0, -1));
        refuses(NO_ELEMENT, () -> x.style(5, 0));
        refuses(NO_ELEMENT, () -> x.style(5, 5));
        refuses(NO_ELEMENT, () -> x.style(-1, 2));
        refuses(NO_ELEMENT, () -> x.style(64, 2));
        for (int far : FAR) {
            refuses(ARGUMENT, () -> x.style(0, far));
            refuses(NO_ELEMENT, () -> x.style(far, far));
        }
    }

    private void usual() {
        promise("9 usual");
        StyleSheet x = new StyleSheet();
        x.make(0, -1);
        int set = x.with(0, 9, 4);
        for (int property = 0; property < 24; property++) {
            int p = property;
            int greatest = greatest(p);
            passes(() -> x.usual(p, greatest));
            refuses(ARGUMENT, () -> x.usual(p, greatest + 1));
            refuses(ARGUMENT, () -> x.usual(p, -1));
            answers(greatest, () -> x.resolve(0, 0, -1, p));
            passes(() -> x.usual(p, 1));
        }
        answers(1, () -> x.resolve(0, -1, -1, 9));
        answers(4, () -> x.resolve(set, 0, -1, 9));
        answers(-1, () -> x.value(0, 9));
        answers(-1, () -> x.get(0, 9));
        answers(1, () -> x.count(3));
        answers(0, () -> x.count(2));
        refuses(ARGUMENT, () -> x.usual(24, 0));
        refuses(ARGUMENT, () -> x.usual(-1, 0));
        for (int far : FAR) {
            refuses(ARGUMENT, () -> x.usual(far, 0));
            refuses(ARGUMENT, () -> x.usual(23, far));
        }
        answers(1, () -> x.resolve(0, -1, -1, 23));
    }

    private void with() {
        promise("10 with");
        StyleSheet x = new StyleSheet();
        answers(1, () -> x.with(0, 0, 0));
        answers(2, () -> x.with(1, 23, 65535));
        answers(3, () -> x.with(2, 0, 1));
        answers(2, () -> x.with(2, 23, 65535));
        answers(2, () -> x.with(3, 0, 0));
        answers(4, () -> x.with(3, 0, -1));
        answers(4, () -> x.with(0, 23, 65535));
        answers(0, () -> x.with(4, 23, -1));
        answers(0, () -> x.with(0, 12, -1));
        answers(4, () -> x.with(4, 12, -1));
        answers(2, () -> x.with(4, 0, 0));
        answers(0, () -> x.get(1, 0));
        answers(-1, () -> x.get(1, 23));
        answers(65535, () -> x.get(3, 23));
        answers(1, () -> x.get(3, 0));
        answers(5, () -> x.count(1));
        passes(() -> x.mark(3));
        answers(3, () -> x.sweep());
        answers(1, () -> x.with(3, 0, -1));
        answers(2, () -> x.with(0, 0, 1));
        answers(4, () -> x.with(2, 8, 255));
        answers(2, () -> x.size(4));
    }

    private void withRefuses() {
        promise("10 with, wrong inputs");
        StyleSheet x = new StyleSheet();
        for (int property = 0; property < 24; property++) {
            int p = property;
            refuses(ARGUMENT, () -> x.with(0, p, greatest(p) + 1));
            refuses(ARGUMENT, () -> x.with(0, p, -2));
        }
        refuses(ARGUMENT, () -> x.with(0, 24, 0));
        refuses(ARGUMENT, () -> x.with(0, -1, 0));
        refuses(ARGUMENT, () -> x.with(0, 24, -1));
        refuses(NO_ELEMENT, () -> x.with(1, 0, 0));
        refuses(NO_ELEMENT, () -> x.with(1, 24, 0));
        refuses(NO_ELEMENT, () -> x.with(-1, 0, 0));
        refuses(NO_ELEMENT, () -> x.with(256, 0, 2));
        for (int far : FAR) {
            refuses(ARGUMENT, () -> x.with(0, far, 0));
            refuses(ARGUMENT, () -> x.with(0, 23, far));
            refuses(NO_ELEMENT, () -> x.with(far, far, far));
        }
        answers(1, () -> x.count(1));
    }

    /** 256 sets: 0, those of property 16 = 0 .. 253, and one of property 0 = 1. */
    private StyleSheet fullOfSets() {
        StyleSheet x = new StyleSheet();
        for (int value = 0; value < 254; value++) {
            int v = value;
            answers(v + 1, () -> x.with(0, 16, v));
        }
        answers(255, () -> x.with(0, 0, 1));
        return x;
    }

    private void noSetLeft() {
        promise("10, 11, 12 no number left");
        StyleSheet x = fullOfSets();
        x.usual(16, 7);
        refuses(STATE, () -> x.with(0, 16, 254));
        refuses(STATE, () -> x.over(255, 1));
        answers(1, () -> x.with(0, 16, 0));
        answers(255, () -> x.with(255, 0, 1));
        answers(0, () -> x.with(255, 0, -1));
        answers(3, () -> x.over(2, 3));
        answers(0, () -> x.lean(8, -1, -1));
        answers(9, () -> x.lean(9, -1, -1));
        refuses(ARGUMENT, () -> x.with(0, 24, 254));
        refuses(ARGUMENT, () -> x.lean(9, 0, -1));
        refuses(NO_ELEMENT, () -> x.with(256, 16, 254));
        refuses(NO_ELEMENT, () -> x.over(255, 256));
        answers(256, () -> x.count(1));
        answers(255, () -> x.count(3));
        answers(1, () -> x.mark(8));
        answers(2, () -> x.mark(255));
        answers(253, () -> x.sweep());
        answers(1, () -> x.over(8, 255));
        answers(255, () -> x.lean(1, -1, -1));
        answers(4, () -> x.count(1));
        leanNeedsANumber();
    }

    private void leanNeedsANumber() {
        promise("12 lean, no number left");
        StyleSheet x = new StyleSheet();
        int both = x.with(x.with(0, 0, 1), 16, 500);
        x.mark(both);
        x.sweep();
        for (int value = 0; value < 254; value++) {
            x.with(0, 17, value);
        }
        answers(256, () -> x.count(1));
        passes(() -> x.usual(16, 500));
        refuses(STATE, () -> x.lean(both, -1, -1));
        refuses(ARGUMENT, () -> x.lean(both, 0, -1));
        refuses(NO_ELEMENT, () -> x.lean(256, -1, -1));
        answers(256, () -> x.count(1));
        answers(2, () -> x.size(both));
        passes(() -> x.usual(16, 501));
        answers(both, () -> x.lean(both, -1, -1));
    }

    private void over() {
        promise("11 over");
        StyleSheet x = new StyleSheet();
        int left = x.with(x.with(0, 8, 1), 9, 2);
        int right = x.with(x.with(0, 9, 3), 10, 0);
        answers(5, () -> x.over(left, right));
        answers(1, () -> x.get(5, 8));
        answers(3, () -> x.get(5, 9));
        answers(0, () -> x.get(5, 10));
        answers(3, () -> x.size(5));
        answers(6, () -> x.over(right, left));
        answers(2, () -> x.get(6, 9));
        answers(left, () -> x.over(left, 0));
        answers(left, () -> x.over(0, left));
        answers(left, () -> x.over(left, left));
        answers(0, () -> x.over(0, 0));
        answers(5, () -> x.over(6, right));
        answers(7, () -> x.count(1));
        refuses(NO_ELEMENT, () -> x.over(7, 0));
        refuses(NO_ELEMENT, () -> x.over(0, 7));
        refuses(NO_ELEMENT, () -> x.over(-1, 0));
        refuses(NO_ELEMENT, () -> x.over(0, -1));
        refuses(NO_ELEMENT, () -> x.over(256, 0));
        refuses(NO_ELEMENT, () -> x.over(0, 256));
        for (int far : FAR) {
            refuses(NO_ELEMENT, () -> x.over(0, far));
            refuses(NO_ELEMENT, () -> x.over(far, 0));
        }
        answers(7, () -> x.count(1));
    }

    private void lean() {
        promise("12 lean");
        StyleSheet x = new StyleSheet();
        int c = x.make(0, x.make(0, -1));
        int q = x.make(1, -1);
        x.own(0, 8, 5);
        x.own(q, 8, 6);
        x.own(q, 9, 7);
        x.usual(10, 8);
        int all = x.with(x.with(x.with(x.with(0, 8, 5), 9, 7), 10, 8), 11, 0);
        answers(4, () -> all);
        answers(0, () -> x.lean(all, c, q));
        answers(1, () -> x.lean(all, -1, q));
        answers(0, () -> x.lean(0, c, q));
        int noCharacters = x.with(x.with(0, 9, 7), 8, 6);
        answers(0, () -> x.lean(noCharacters, -1, q));
        int kept = x.with(0, 8, 6);
        answers(kept, () -> x.lean(noCharacters, c, q));
        answers(2, () -> x.lean(all, -1, -1));
        answers(noCharacters, () -> x.lean(noCharacters, -1, -1));
        passes(() -> x.own(0, 8, -1));
        answers(0, () -> x.lean(noCharacters, c, q));
        passes(() -> x.usual(8, 6));
        answers(0, () -> x.lean(kept, c, -1));
        passes(() -> x.own(q, 8, 0));
        answers(kept, () -> x.lean(kept, c, q));
        int before = x.count(1);
        int half = x.with(x.with(0, 12, 1), 8, 0);
        answers(before + 2, () -> x.count(1));
        answers(before, () -> x.lean(half, c, q));
        answers(before + 2, () -> x.count(1));
    }

    private void leanRefuses() {
        promise("12 lean, wrong inputs");
        StyleSheet x = new StyleSheet();
        x.make(0, -1);
        x.make(1, -1);
        refuses(ARGUMENT, () -> x.lean(0, 1, -1));
        refuses(ARGUMENT, () -> x.lean(0, -1, 0));
        refuses(ARGUMENT, () -> x.lean(0, 2, 1));
        refuses(ARGUMENT, () -> x.lean(0, 0, 2));
        refuses(ARGUMENT, () -> x.lean(0, 64, 1));
        refuses(ARGUMENT, () -> x.lean(0, 0, 64));
        refuses(NO_ELEMENT, () -> x.lean(1, 0, 1));
        refuses(NO_ELEMENT, () -> x.lean(1, 1, 0));
        refuses(NO_ELEMENT, () -> x.lean(-1, -1, -1));
        refuses(NO_ELEMENT, () -> x.lean(256, -1, -1));
        for (int far : FAR) {
            refuses(ARGUMENT, () -> x.lean(0, far, -1));
            refuses(ARGUMENT, () -> x.lean(0, -1, far));
            refuses(NO_ELEMENT, () -> x.lean(far, far, far));
        }
    }

    private void get() {
        promise("13 get");
        StyleSheet x = new StyleSheet();
        answers(1, () -> x.with(0, 15, 255));
        answers(2, () -> x.with(1, 0, 0));
        answers(255, () -> x.get(1, 15));
        answers(-1, () -> x.get(1, 0));
        answers(0, () -> x.get(2, 0));
        answers(255, () -> x.get(2, 15));
        answers(-1, () -> x.get(0, 15));
        passes(() -> x.usual(14, 9));
        answers(-1, () -> x.get(2, 14));
        refuses(ARGUMENT, () -> x.get(0, 24));
        refuses(ARGUMENT, () -> x.get(0, -1));
        refuses(NO_ELEMENT, () -> x.get(3, 0));
        refuses(NO_ELEMENT, () -> x.get(3, 24));
        refuses(NO_ELEMENT, () -> x.get(-1, 0));
        refuses(NO_ELEMENT, () -> x.get(256, 0));
        for (int far : FAR) {
            refuses(ARGUMENT, () -> x.get(0, far));
            refuses(NO_ELEMENT, () -> x.get(far, far));
        }
    }

    private void size() {
        promise("14 size");
        StyleSheet x = new StyleSheet();
        for (int property = 0; property < 24; property++) {
            int p = property;
            answers(p + 1, () -> x.with(p, p, 0));
            answers(p + 1, () -> x.size(p + 1));
        }
        answers(0, () -> x.size(0));
        answers(-1, () -> x.size(25));
        answers(-1, () -> x.size(-1));
        answers(-1, () -> x.size(256));
        for (int far : FAR) {
            answers(-1, () -> x.size(far));
        }
        answers(1, () -> x.mark(24));
        answers(23, () -> x.sweep());
        answers(-1, () -> x.size(23));
        answers(24, () -> x.size(24));
        answers(0, () -> x.size(0));
    }

    private void resolve() {
        promise("15 resolve");
        StyleSheet x = new StyleSheet();
        int c = x.make(0, x.make(0, -1));
        int q = x.make(1, -1);
        int set = x.with(x.with(0, 16, 0), 20, 9);
        x.usual(16, 1);
        x.own(q, 16, 2);
        x.own(0, 16, 3);
        answers(0, () -> x.resolve(set, c, q, 16));
        answers(3, () -> x.resolve(0, c, q, 16));
        answers(3, () -> x.resolve(0, c, -1, 16));
        answers(2, () -> x.resolve(0, -1, q, 16));
        answers(1, () -> x.resolve(0, -1, -1, 16));
        answers(9, () -> x.resolve(set, -1, -1, 20));
        answers(0, () -> x.resolve(set, c, q, 21));
        passes(() -> x.own(c, 16, 0));
        answers(0, () -> x.resolve(0, c, q, 16));
        passes(() -> x.own(c, 16, -1));
        passes(() -> x.own(0, 16, -1));
        answers(2, () -> x.resolve(0, c, q, 16));
        passes(() -> x.own(q, 16, -1));
        answers(1, () -> x.resolve(0, c, q, 16));
    }

    private void resolveRefuses() {
        promise("15 resolve, wrong inputs");
        StyleSheet x = new StyleSheet();
        x.make(0, -1);
        x.make(1, -1);
        refuses(ARGUMENT, () -> x.resolve(0, 1, 1, 0));
        refuses(ARGUMENT, () -> x.resolve(0, 0, 0, 0));
        refuses(ARGUMENT, () -> x.resolve(0, 2, -1, 0));
        refuses(ARGUMENT, () -> x.resolve(0, -1, 2, 0));
        refuses(ARGUMENT, () -> x.resolve(0, 0, 1, 24));
        refuses(ARGUMENT, () -> x.resolve(0, 0, 1, -1));
        refuses(NO_ELEMENT, () -> x.resolve(1, 0, 1, 0));
        refuses(NO_ELEMENT, () -> x.resolve(1, 1, 0, 24));
        refuses(NO_ELEMENT, () -> x.resolve(-1, -1, -1, 0));
        refuses(NO_ELEMENT, () -> x.resolve(256, -1, -1, 0));
        for (int far : FAR) {
            refuses(ARGUMENT, () -> x.resolve(0, far, 1, 0));
            refuses(ARGUMENT, () -> x.resolve(0, 0, far, 0));
            refuses(ARGUMENT, () -> x.resolve(0, 0, 1, far));
            refuses(NO_ELEMENT, () -> x.resolve(far, far, far, far));
        }
    }

    private void differ() {
        promise("16 differ");
        StyleSheet x = new StyleSheet();
        int c = x.make(0, -1);
        int q = x.make(1, -1);
        int left = x.with(x.with(0, 8, 1), 23, 2);
        int right = x.with(x.with(0, 8, 1), 23, 3);
        answers(23, () -> x.differ(left, right, c, q));
        answers(23, () -> x.differ(right, left, -1, -1));
        answers(8, () -> x.differ(left, 0, c, q));
        answers(8, () -> x.differ(0, left, c, q));
        answers(-1, () -> x.differ(left, left, c, q));
        answers(-1, () -> x.differ(0, 0, -1, -1));
        passes(() -> x.own(c, 8, 1));
        answers(23, () -> x.differ(left, 0, c, q));
        passes(() -> x.own(q, 23, 2));
        answers(-1, () -> x.differ(left, 0, c, q));
        answers(23, () -> x.differ(right, 0, c, q));
        answers(8, () -> x.differ(left, 0, -1, q));
        passes(() -> x.usual(8, 1));
        answers(-1, () -> x.differ(left, 0, -1, q));
        answers(23, () -> x.differ(left, 0, c, -1));
        int zero = x.with(0, 0, 0);
        answers(-1, () -> x.differ(zero, 0, c, q));
        int one = x.with(0, 0, 1);
        answers(0, () -> x.differ(zero, one, c, q));
    }

    private void differRefuses() {
        promise("16 differ, wrong inputs");
        StyleSheet x = new StyleSheet();
        x.make(0, -1);
        x.make(1, -1);
        refuses(ARGUMENT, () -> x.differ(0, 0, 1, 1));
        refuses(ARGUMENT, () -> x.differ(0, 0, 0, 0));
        refuses(ARGUMENT, () -> x.differ(0, 0, 2, -1));
        refuses(ARGUMENT, () -> x.differ(0, 0, -1, 64));
        refuses(NO_ELEMENT, () -> x.differ(1, 0, 0, 1));
        refuses(NO_ELEMENT, () -> x.differ(0, 1, 0, 1));
        refuses(NO_ELEMENT, () -> x.differ(0, 1, 1, 0));
        refuses(NO_ELEMENT, () -> x.differ(-1, 0, -1, -1));
        refuses(NO_ELEMENT, () -> x.differ(0, 256, -1, -1));
        for (int far : FAR) {
            refuses(ARGUMENT, () -> x.differ(0, 0, far, 1));
            refuses(ARGUMENT, () -> x.differ(0, 0, 0, far));
            refuses(NO_ELEMENT, () -> x.differ(far, 0, far, far));
            refuses(NO_ELEMENT, () -> x.differ(0, far, far, far));
        }
    }

    private void mark() {
        promise("17 mark");
        StyleSheet x = new StyleSheet();
        x.with(0, 0, 0);
        x.with(0, 0, 1);
        answers(1, () -> x.mark(2));
        answers(1, () -> x.mark(2));
        answers(2, () -> x.mark(0));
        answers(2, () -> x.mark(0));
        answers(2, () -> x.mark(2));
        answers(3, () -> x.with(2, 1, 1));
        answers(3, () -> x.mark(3));
        refuses(NO_ELEMENT, () -> x.mark(4));
        refuses(NO_ELEMENT, () -> x.mark(-1));
        refuses(NO_ELEMENT, () -> x.mark(256));
        for (int far : FAR) {
            refuses(NO_ELEMENT, () -> x.mark(far));
        }
        answers(3, () -> x.mark(3));
        answers(1, () -> x.sweep());
        answers(1, () -> x.with(0, 20, 20));
        answers(1, () -> x.mark(3));
        answers(2, () -> x.sweep());
    }

    private void sweep() {
        promise("18 sweep");
        StyleSheet x = new StyleSheet();
        answers(0, () -> x.sweep());
        x.make(1, -1);
        x.own(0, 9, 9);
        x.with(0, 8, 1);
        x.with(0, 8, 2);
        x.with(0, 8, 3);
        answers(1, () -> x.mark(2));
        answers(2, () -> x.sweep());
        answers(2, () -> x.count(1));
        answers(2, () -> x.get(2, 8));
        answers(0, () -> x.size(0));
        refuses(NO_ELEMENT, () -> x.get(1, 8));
        refuses(NO_ELEMENT, () -> x.mark(3));
        answers(1, () -> x.count(3));
        answers(9, () -> x.value(0, 9));
        answers(1, () -> x.with(0, 8, 3));
        answers(3, () -> x.with(0, 8, 1));
        answers(1, () -> x.size(1));
        answers(1, () -> x.mark(0));
        answers(3, () -> x.sweep());
        answers(1, () -> x.count(1));
        answers(0, () -> x.count(3));
        answers(1, () -> x.mark(0));
        answers(1, () -> x.with(0, 23, 1));
        answers(-1, () -> x.get(1, 8));
        answers(2, () -> x.mark(1));
        answers(0, () -> x.sweep());
        answers(1, () -> x.sweep());
    }

    private void count() {
        promise("19 count");
        StyleSheet x = new StyleSheet();
        x.make(0, -1);
        x.make(0, 0);
        x.make(0, 1);
        x.make(1, -1);
        x.make(1, 3);
        x.own(0, 0, 0);
        x.own(2, 0, 1);
        x.own(4, 23, 1);
        x.own(4, 22, 1);
        x.with(x.with(0, 5, 0), 6, 0);
        answers(5, () -> x.count(0));
        answers(3, () -> x.count(1));
        answers(4, () -> x.count(2));
        answers(3, () -> x.count(3));
        answers(3, () -> x.count(4));
        answers(-1, () -> x.count(5));
        answers(-1, () -> x.count(-1));
        for (int far : FAR) {
            answers(-1, () -> x.count(far));
        }
        answers(1, () -> x.drop(0));
        answers(4, () -> x.count(0));
        answers(3, () -> x.count(2));
        answers(2, () -> x.count(4));
        is(true, () -> x.rebase(2, -1));
        is(true, () -> x.rebase(4, -1));
        answers(1, () -> x.count(4));
        answers(2, () -> x.sweep());
        answers(1, () -> x.count(1));
        answers(0, () -> x.count(3));
        longestChainOfAll();
    }

    private void longestChainOfAll() {
        StyleSheet x = new StyleSheet();
        for (int number = 0; number < 64; number++) {
            x.make(0, number - 1);
        }
        answers(64, () -> x.count(4));
        answers(64, () -> x.style(63, 0));
        answers(63, () -> x.style(0, 1));
        is(false, () -> x.rebase(0, 63));
        answers(1, () -> x.drop(0));
        answers(63, () -> x.count(4));
    }

    private void leastStyleOnOthers() {
        promise("3, 8, 19 style 0 based on another one");
        StyleSheet x = new StyleSheet();
        x.make(1, -1);
        x.make(1, -1);
        x.make(1, -1);
        x.rebase(0, 2);
        answers(2, () -> x.count(4));
        answers(1, () -> x.style(2, 1));
        answers(1, () -> x.drop(2));
        answers(-1, () -> x.style(0, 2));
        answers(1, () -> x.count(4));
    }

    private void objectsAreApart() {
        promise("1 a new object, beside another");
        StyleSheet x = new StyleSheet();
        x.make(0, -1);
        x.own(0, 0, 1);
        x.usual(1, 1);
        x.mark(x.with(0, 2, 1));
        StyleSheet y = new StyleSheet();
        answers(0, () -> y.count(0));
        answers(1, () -> y.count(1));
        answers(0, () -> y.resolve(0, -1, -1, 1));
        answers(1, () -> y.mark(0));
        answers(1, () -> x.count(0));
        answers(2, () -> x.mark(0));
    }
}
