import java.util.stream.IntStream;

/** The boundary cases that promises 10 to 19 name: a test of its own for each. */
final class SetBoundaryTest extends Due {
    public static void main(String[] args) {
        SetBoundaryTest t = new SetBoundaryTest();
        t.with();
        t.over();
        t.lean();
        t.getAndSize();
        t.resolve();
        t.differ();
        t.mark();
        t.sweep();
        t.count();
        t.end();
    }

    private void with() {
        test("10 with: -1, the set that has none of it", this::withNone);
        test("10 with: -1 of what the set has none of is the set itself", this::withNoneOfNone);
        test("10 with: the value that the set has is the set itself", this::withTheSame);
        test("10 with: another value in place of the one it has", this::withAnother);
        test("10 with: the set itself stays as it is", this::withLeavesTheSet);
        test("10 with: without its last value it is set 0", this::withoutTheLast);
        test("10 with: up to all 24 properties", this::withAll);
        test("10 with: the last number, and none behind it", this::lastSet);
        test("10 with: a set that was swept is none", this::withSwept);
    }

    private void withNone() {
        StyleSheet x = new StyleSheet();
        x.with(0, 0, 1);
        x.with(1, 23, 65535);
        answers(1, () -> x.with(2, 23, -1));
        answers(3, () -> x.with(2, 0, -1));
        answers(-1, () -> x.get(3, 0));
        answers(65535, () -> x.get(3, 23));
        answers(1, () -> x.size(3));
    }

    private void withNoneOfNone() {
        StyleSheet x = new StyleSheet();
        x.with(0, 8, 1);
        IntStream.range(0, 24).forEach(p -> answers(0, () -> x.with(0, p, -1)));
        answers(1, () -> x.with(1, 7, -1));
        answers(1, () -> x.with(1, 9, -1));
        answers(2, () -> x.count(1));
    }

    private void withTheSame() {
        StyleSheet x = new StyleSheet();
        x.with(0, 8, 0);
        x.with(1, 16, 65535);
        answers(1, () -> x.with(1, 8, 0));
        answers(2, () -> x.with(2, 8, 0));
        answers(2, () -> x.with(2, 16, 65535));
        answers(3, () -> x.count(1));
    }

    private void withAnother() {
        StyleSheet x = new StyleSheet();
        x.with(0, 8, 0);
        answers(2, () -> x.with(1, 8, 255));
        answers(255, () -> x.get(2, 8));
        answers(1, () -> x.size(2));
        answers(1, () -> x.with(2, 8, 0));
    }

    private void withLeavesTheSet() {
        StyleSheet x = new StyleSheet();
        x.with(0, 8, 1);
        x.with(1, 8, 2);
        x.with(1, 9, 3);
        x.with(1, 8, -1);
        answers(1, () -> x.get(1, 8));
        answers(-1, () -> x.get(1, 9));
        answers(1, () -> x.size(1));
        answers(0, () -> x.size(0));
    }

    private void withoutTheLast() {
        StyleSheet x = new StyleSheet();
        IntStream.range(0, 24).forEach(p -> answers(0, () -> x.with(x.with(0, p, 1), p, -1)));
        answers(25, () -> x.count(1));
    }

    private void withAll() {
        StyleSheet x = new StyleSheet();
        IntStream.range(0, 24).forEach(p -> answers(p + 1, () -> x.with(p, p, p % 2)));
        answers(24, () -> x.size(24));
        IntStream.range(0, 24).forEach(p -> answers(p % 2, () -> x.get(24, p)));
        answers(23, () -> x.with(24, 23, -1));
    }

    private void lastSet() {
        StyleSheet x = new StyleSheet();
        IntStream.range(0, 254).forEach(v -> x.with(0, 16, v));
        answers(255, () -> x.with(0, 16, 254));
        refuses(STATE, () -> x.with(0, 16, 255));
        answers(256, () -> x.count(1));
        answers(254, () -> x.get(255, 16));
    }

    private void withSwept() {
        StyleSheet x = new StyleSheet();
        x.with(0, 8, 1);
        x.with(0, 8, 2);
        x.mark(2);
        x.sweep();
        refuses(NO_ELEMENT, () -> x.with(1, 8, 1));
        answers(1, () -> x.with(2, 8, 1));
    }

    private void over() {
        test("11 over: of properties that both have the other's", this::overBoth);
        test("11 over: the other's 0 too", this::overZero);
        test("11 over: all values of both", this::overAll);
        test("11 over: a set and set 0", this::overWithEmpty);
        test("11 over: a set and itself", this::overItself);
        test("11 over: both sets stay as they are", this::overLeavesBoth);
        test("11 over: neither set may be none", this::overNone);
    }

    private void overBoth() {
        StyleSheet x = new StyleSheet();
        x.with(0, 16, 1);
        x.with(0, 16, 2);
        answers(2, () -> x.over(1, 2));
        answers(1, () -> x.over(2, 1));
        answers(3, () -> x.count(1));
    }

    private void overZero() {
        StyleSheet x = new StyleSheet();
        x.with(0, 0, 1);
        x.with(0, 0, 0);
        answers(2, () -> x.over(1, 2));
        answers(1, () -> x.over(2, 1));
    }

    private void overAll() {
        StyleSheet x = new StyleSheet();
        int even = 0;
        int odd = 0;
        for (int p = 0; p < 24; p += 2) {
            even = x.with(even, p, 1);
            odd = x.with(odd, p + 1, 0);
        }
        int left = even;
        int right = odd;
        answers(25, () -> x.over(left, right));
        answers(25, () -> x.over(right, left));
        answers(24, () -> x.size(25));
        IntStream.range(0, 24).forEach(p -> answers((p + 1) % 2, () -> x.get(25, p)));
    }

    private void overWithEmpty() {
        StyleSheet x = new StyleSheet();
        x.with(0, 0, 0);
        answers(1, () -> x.over(1, 0));
        answers(1, () -> x.over(0, 1));
        answers(0, () -> x.over(0, 0));
        answers(2, () -> x.count(1));
    }

    private void overItself() {
        StyleSheet x = new StyleSheet();
        x.with(x.with(0, 0, 0), 23, 65535);
        answers(2, () -> x.over(2, 2));
        answers(2, () -> x.over(2, 1));
        answers(2, () -> x.over(1, 2));
        answers(3, () -> x.count(1));
    }

    private void overLeavesBoth() {
        StyleSheet x = new StyleSheet();
        x.with(x.with(0, 8, 1), 9, 2);
        x.with(x.with(0, 9, 3), 10, 4);
        answers(5, () -> x.over(2, 4));
        answers(1, () -> x.get(2, 8));
        answers(2, () -> x.get(2, 9));
        answers(-1, () -> x.get(2, 10));
        answers(-1, () -> x.get(4, 8));
        answers(3, () -> x.get(4, 9));
        answers(4, () -> x.get(4, 10));
    }

    private void overNone() {
        StyleSheet x = new StyleSheet();
        x.with(0, 8, 1);
        x.with(0, 8, 2);
        x.mark(1);
        x.sweep();
        for (int none : new int[] {LOW, -1, 2, 3, 255, 256, HIGH}) {
            refuses(NO_ELEMENT, () -> x.over(1, none));
            refuses(NO_ELEMENT, () -> x.over(none, 1));
            refuses(NO_ELEMENT, () -> x.over(none, none));
        }
    }

    private void lean() {
        test("12 lean: no value is needed", this::leanOfNothing);
        test("12 lean: all values are needed", this::leanOfAll);
        test("12 lean: of set 0", this::leanOfEmpty);
        test("12 lean: by c", this::leanByC);
        test("12 lean: by c, though q gives the set's value", this::leanPastC);
        test("12 lean: by q, where c has none", this::leanByQ);
        test("12 lean: by q, though the usual value is the set's", this::leanPastQ);
        test("12 lean: by the usual value, where neither has one", this::leanByUsual);
        test("12 lean: by styles that c and q are based on", this::leanByBases);
        test("12 lean: c and q may be -1", this::leanWithoutStyles);
        test("12 lean: a value 0 as usual is not needed", this::leanOfZero);
        test("12 lean: as they are now", this::leanAsNow);
        test("12 lean: the set itself stays as it is", this::leanLeavesTheSet);
        test("12 lean: at each property", this::leanAtEach);
    }

    /** Style 0 of characters, style 1 of paragraphs; the set 1 has property 16 = 4 alone. */
    private static StyleSheet oneValue() {
        StyleSheet x = new StyleSheet();
        x.make(0, -1);
        x.make(1, -1);
        x.with(0, 16, 4);
        return x;
    }

    private void leanOfNothing() {
        StyleSheet x = oneValue();
        x.with(1, 17, 5);
        x.own(0, 16, 4);
        x.own(1, 17, 5);
        answers(0, () -> x.lean(2, 0, 1));
        answers(3, () -> x.count(1));
    }

    private void leanOfAll() {
        StyleSheet x = oneValue();
        x.with(1, 17, 5);
        x.own(0, 16, 5);
        x.own(1, 17, 4);
        answers(2, () -> x.lean(2, 0, 1));
        answers(3, () -> x.count(1));
    }

    private void leanOfEmpty() {
        StyleSheet x = oneValue();
        x.own(0, 16, 4);
        x.usual(17, 3);
        answers(0, () -> x.lean(0, 0, 1));
        answers(0, () -> x.lean(0, -1, -1));
    }

    private void leanByC() {
        StyleSheet x = oneValue();
        x.own(0, 16, 4);
        x.own(1, 16, 5);
        x.usual(16, 6);
        answers(0, () -> x.lean(1, 0, 1));
        answers(0, () -> x.lean(1, 0, -1));
    }

    private void leanPastC() {
        StyleSheet x = oneValue();
        x.own(0, 16, 0);
        x.own(1, 16, 4);
        x.usual(16, 4);
        answers(1, () -> x.lean(1, 0, 1));
        answers(1, () -> x.lean(1, 0, -1));
        answers(0, () -> x.lean(1, -1, 1));
    }

    private void leanByQ() {
        StyleSheet x = oneValue();
        x.own(1, 16, 4);
        x.usual(16, 6);
        answers(0, () -> x.lean(1, 0, 1));
        answers(0, () -> x.lean(1, -1, 1));
        answers(1, () -> x.lean(1, 0, -1));
    }

    private void leanPastQ() {
        StyleSheet x = oneValue();
        x.own(1, 16, 0);
        x.usual(16, 4);
        answers(1, () -> x.lean(1, 0, 1));
        answers(1, () -> x.lean(1, -1, 1));
        answers(0, () -> x.lean(1, 0, -1));
    }

    private void leanByUsual() {
        StyleSheet x = oneValue();
        x.usual(16, 4);
        answers(0, () -> x.lean(1, 0, 1));
        answers(0, () -> x.lean(1, -1, -1));
        x.usual(16, 3);
        answers(1, () -> x.lean(1, 0, 1));
    }

    private void leanByBases() {
        StyleSheet x = Sheets.oneChain(0);
        x.with(0, 16, 4);
        x.own(0, 16, 4);
        answers(0, () -> x.lean(1, 63, -1));
        StyleSheet y = Sheets.oneChain(1);
        y.with(0, 16, 4);
        y.own(0, 16, 4);
        answers(0, () -> y.lean(1, -1, 63));
    }

    private void leanWithoutStyles() {
        StyleSheet x = oneValue();
        x.own(0, 16, 4);
        x.own(1, 16, 4);
        answers(1, () -> x.lean(1, -1, -1));
        answers(0, () -> x.lean(1, 0, -1));
        answers(0, () -> x.lean(1, -1, 1));
    }

    private void leanOfZero() {
        StyleSheet x = new StyleSheet();
        x.with(0, 16, 0);
        answers(0, () -> x.lean(1, -1, -1));
        x.usual(16, 1);
        answers(1, () -> x.lean(1, -1, -1));
    }

    private void leanAsNow() {
        StyleSheet x = oneValue();
        answers(1, () -> x.lean(1, 0, 1));
        x.own(0, 16, 4);
        answers(0, () -> x.lean(1, 0, 1));
        x.own(0, 16, -1);
        answers(1, () -> x.lean(1, 0, 1));
        x.usual(16, 4);
        answers(0, () -> x.lean(1, 0, 1));
        x.own(1, 16, 5);
        answers(1, () -> x.lean(1, 0, 1));
        x.drop(1);
        answers(0, () -> x.lean(1, 0, -1));
    }

    private void leanLeavesTheSet() {
        StyleSheet x = oneValue();
        x.with(1, 17, 5);
        x.usual(16, 4);
        answers(3, () -> x.lean(2, 0, 1));
        answers(4, () -> x.get(2, 16));
        answers(5, () -> x.get(2, 17));
        answers(-1, () -> x.get(3, 16));
        answers(5, () -> x.get(3, 17));
        answers(1, () -> x.size(3));
    }

    private void leanAtEach() {
        for (int i = 0; i < 24; i++) {
            int property = i;
            StyleSheet x = new StyleSheet();
            for (int p = 0; p < 24; p++) {
                x.with(p, p, 1);
            }
            x.usual(property, 1);
            int lean = x.lean(24, -1, -1);
            answers(23, () -> x.size(lean));
            answers(-1, () -> x.get(lean, property));
            answers(-1, () -> x.differ(24, lean, -1, -1));
        }
    }

    private void getAndSize() {
        test("13 get: -1 if the set has none", this::getNone);
        test("13 get: 0 is a value", this::getZero);
        test("13 get: neither styles nor usual values are looked at", this::getDirectAlone);
        test("14 size: -1 if the set isn't there", this::sizeOfNone);
        test("14 size: -1 if the set was swept", this::sizeOfSwept);
        test("14 size: 0 of set 0", () -> answers(0, () -> new StyleSheet().size(0)));
        test("14 size: 24 at the most", this::sizeOfAll);
    }

    private void getNone() {
        StyleSheet x = new StyleSheet();
        x.with(0, 8, 1);
        answers(-1, () -> x.get(1, 7));
        answers(-1, () -> x.get(1, 9));
        IntStream.range(0, 24).forEach(p -> answers(-1, () -> x.get(0, p)));
    }

    private void getZero() {
        StyleSheet x = new StyleSheet();
        IntStream.range(0, 24).forEach(p -> answers(0, () -> x.get(x.with(0, p, 0), p)));
    }

    private void getDirectAlone() {
        StyleSheet x = oneValue();
        x.own(0, 17, 5);
        x.own(1, 17, 6);
        x.usual(17, 7);
        answers(-1, () -> x.get(1, 17));
        answers(4, () -> x.get(1, 16));
    }

    private void sizeOfNone() {
        StyleSheet x = new StyleSheet();
        x.with(0, 8, 1);
        for (int none : new int[] {LOW, LOW + 1, -256, -2, -1, 2, 255, 256, 257, 65536, HIGH}) {
            answers(-1, () -> x.size(none));
        }
        answers(1, () -> x.size(1));
    }

    private void sizeOfSwept() {
        StyleSheet x = new StyleSheet();
        x.with(x.with(0, 8, 1), 9, 1);
        x.mark(2);
        x.sweep();
        answers(-1, () -> x.size(1));
        answers(2, () -> x.size(2));
        x.with(0, 0, 0);
        answers(1, () -> x.size(1));
    }

    private void sizeOfAll() {
        StyleSheet x = new StyleSheet();
        IntStream.range(0, 24).forEach(p -> x.with(p, p, 0));
        IntStream.range(0, 25).forEach(set -> answers(set, () -> x.size(set)));
    }

    private void resolve() {
        test("15 resolve: the ends of the properties", this::resolveEnds);
        test("15 resolve: wrong c or q, though the set has the value", this::resolveRefuses);
        test("15 resolve: c and q that were dropped", this::resolveDropped);
    }

    private void resolveEnds() {
        StyleSheet x = new StyleSheet();
        x.usual(0, 1);
        x.usual(23, 65535);
        answers(1, () -> x.resolve(0, -1, -1, 0));
        answers(65535, () -> x.resolve(0, -1, -1, 23));
        refuses(ARGUMENT, () -> x.resolve(0, -1, -1, -1));
        refuses(ARGUMENT, () -> x.resolve(0, -1, -1, 24));
    }

    private void resolveRefuses() {
        StyleSheet x = oneValue();
        refuses(ARGUMENT, () -> x.resolve(1, 1, 1, 16));
        refuses(ARGUMENT, () -> x.resolve(1, 0, 0, 16));
        refuses(ARGUMENT, () -> x.resolve(1, 2, 1, 16));
        refuses(ARGUMENT, () -> x.resolve(1, 0, 2, 16));
        refuses(ARGUMENT, () -> x.resolve(1, -2, 1, 16));
        refuses(ARGUMENT, () -> x.resolve(1, 0, 64, 16));
        answers(4, () -> x.resolve(1, 0, 1, 16));
    }

    private void resolveDropped() {
        StyleSheet x = oneValue();
        x.drop(0);
        refuses(ARGUMENT, () -> x.resolve(0, 0, 1, 16));
        x.drop(1);
        refuses(ARGUMENT, () -> x.resolve(0, -1, 1, 16));
        // The number is given again, for a style of the other kind.
        x.make(1, -1);
        refuses(ARGUMENT, () -> x.resolve(0, 0, -1, 16));
        answers(0, () -> x.resolve(0, -1, 0, 16));
    }

    private void differ() {
        test("16 differ: the least property of several", this::leastDifference);
        test("16 differ: property 0, property 23, and each between them", this::differAtEach);
        test("16 differ: -1 if there is none", this::noDifference);
        test("16 differ: a value that the other has not, but is resolved to", this::differentButAlike);
        test("16 differ: a value that the other has not and isn't resolved to", this::differentBySet);
        test("16 differ: a set and itself", this::differFromItself);
        test("16 differ: neither set may be none", this::differNone);
        test("16 differ: wrong c or q, though the sets are one", this::differRefuses);
    }

    private void leastDifference() {
        StyleSheet x = new StyleSheet();
        x.with(x.with(x.with(0, 5, 1), 8, 9), 23, 1);
        x.with(x.with(0, 5, 1), 23, 2);
        answers(8, () -> x.differ(3, 4, -1, -1));
        answers(8, () -> x.differ(4, 3, -1, -1));
        answers(5, () -> x.differ(3, 0, -1, -1));
        answers(23, () -> x.differ(4, 1, -1, -1));
    }

    private void differAtEach() {
        StyleSheet x = new StyleSheet();
        for (int i = 0; i < 24; i++) {
            int property = i;
            int set = x.with(0, property, 1);
            answers(property, () -> x.differ(0, set, -1, -1));
            answers(property, () -> x.differ(set, 0, -1, -1));
        }
    }

    private void noDifference() {
        StyleSheet x = oneValue();
        x.with(1, 17, 5);
        x.own(0, 17, 5);
        answers(-1, () -> x.differ(1, 2, 0, 1));
        answers(17, () -> x.differ(1, 2, -1, 1));
        answers(-1, () -> x.differ(0, 0, -1, -1));
    }

    private void differentButAlike() {
        StyleSheet x = oneValue();
        x.usual(16, 4);
        answers(-1, () -> x.differ(0, 1, 0, 1));
        answers(-1, () -> x.differ(1, 0, 0, 1));
        x.own(1, 16, 4);
        x.usual(16, 5);
        answers(-1, () -> x.differ(0, 1, 0, 1));
        answers(-1, () -> x.differ(1, 0, 0, 1));
        x.own(0, 16, 4);
        x.own(1, 16, 5);
        answers(-1, () -> x.differ(0, 1, 0, 1));
        answers(-1, () -> x.differ(1, 0, 0, 1));
        x.with(0, 17, 0);
        answers(-1, () -> x.differ(2, 0, 0, 1));
    }

    private void differentBySet() {
        StyleSheet x = oneValue();
        answers(16, () -> x.differ(0, 1, 0, 1));
        x.own(0, 16, 5);
        x.usual(16, 4);
        answers(16, () -> x.differ(0, 1, 0, 1));
        answers(-1, () -> x.differ(0, 1, -1, 1));
    }

    private void differFromItself() {
        StyleSheet x = oneValue();
        x.own(0, 16, 5);
        answers(-1, () -> x.differ(1, 1, 0, 1));
        answers(-1, () -> x.differ(0, 0, 0, 1));
    }

    private void differNone() {
        StyleSheet x = oneValue();
        for (int none : new int[] {LOW, -1, 2, 255, 256, HIGH}) {
            refuses(NO_ELEMENT, () -> x.differ(none, 1, 0, 1));
            refuses(NO_ELEMENT, () -> x.differ(1, none, 0, 1));
            refuses(NO_ELEMENT, () -> x.differ(none, none, 0, 1));
        }
    }

    private void differRefuses() {
        StyleSheet x = oneValue();
        refuses(ARGUMENT, () -> x.differ(0, 0, 1, -1));
        refuses(ARGUMENT, () -> x.differ(0, 0, -1, 0));
        refuses(ARGUMENT, () -> x.differ(1, 1, 2, -1));
        refuses(ARGUMENT, () -> x.differ(1, 1, -1, 64));
        refuses(ARGUMENT, () -> x.differ(0, 1, -2, -1));
    }

    private void mark() {
        test("17 mark: set 0, too", () -> answers(1, () -> new StyleSheet().mark(0)));
        test("17 mark: one twice is as once", this::markTwice);
        test("17 mark: a new set is not marked", this::newSetUnmarked);
        test("17 mark: a new set with a marked one's old number is not marked", this::oldNumberUnmarked);
        test("17 mark: all 256", this::markAll);
        test("17 mark: a set that isn't there", this::markNone);
    }

    private void markTwice() {
        StyleSheet x = new StyleSheet();
        x.with(0, 8, 1);
        answers(1, () -> x.mark(1));
        answers(1, () -> x.mark(1));
        answers(2, () -> x.mark(0));
        answers(2, () -> x.mark(0));
        answers(2, () -> x.mark(1));
        answers(0, () -> x.sweep());
        answers(1, () -> x.sweep());
    }

    private void newSetUnmarked() {
        StyleSheet x = new StyleSheet();
        x.with(0, 8, 1);
        x.mark(1);
        x.with(1, 9, 1);
        x.over(1, x.with(0, 10, 1));
        answers(1, () -> x.mark(1));
        answers(3, () -> x.sweep());
        answers(1, () -> x.size(1));
    }

    private void oldNumberUnmarked() {
        StyleSheet x = new StyleSheet();
        x.with(0, 8, 1);
        x.mark(1);
        answers(0, () -> x.sweep());
        answers(1, () -> x.sweep());
        answers(1, () -> x.with(0, 8, 1));
        answers(1, () -> x.mark(0));
        answers(1, () -> x.sweep());
        answers(-1, () -> x.size(1));
    }

    private void markAll() {
        StyleSheet x = new StyleSheet();
        IntStream.range(0, 255).forEach(v -> answers(v + 1, () -> x.mark(x.with(0, 16, v))));
        answers(256, () -> x.mark(0));
        answers(0, () -> x.sweep());
    }

    private void markNone() {
        StyleSheet x = new StyleSheet();
        x.with(0, 8, 1);
        x.with(0, 8, 2);
        x.mark(2);
        x.sweep();
        for (int none : new int[] {LOW, -2, -1, 1, 3, 255, 256, 257, HIGH}) {
            refuses(NO_ELEMENT, () -> x.mark(none));
        }
        answers(1, () -> x.mark(2));
    }

    private void sweep() {
        test("18 sweep: nothing to sweep", this::sweepNothing);
        test("18 sweep: set 0 stays, marked or not, and is not counted", this::sweepLeavesEmptySet);
        test("18 sweep: all but set 0", this::sweepAll);
        test("18 sweep: marked ones stay, with their numbers and values", this::sweepLeavesMarked);
        test("18 sweep: none is marked then", this::noneMarkedThen);
        test("18 sweep: the values of swept sets are gone", this::sweptValues);
        test("18 sweep: the last set alone", this::sweepLast);
        test("18 sweep: styles and usual values stay", this::sweepLeavesStyles);
    }

    private void sweepNothing() {
        StyleSheet x = new StyleSheet();
        answers(0, () -> x.sweep());
        answers(0, () -> x.sweep());
        x.mark(x.with(0, 8, 1));
        answers(0, () -> x.sweep());
        answers(2, () -> x.count(1));
    }

    private void sweepLeavesEmptySet() {
        StyleSheet x = new StyleSheet();
        x.with(0, 8, 1);
        answers(1, () -> x.sweep());
        answers(0, () -> x.size(0));
        x.with(0, 8, 1);
        x.mark(0);
        answers(1, () -> x.sweep());
        answers(0, () -> x.size(0));
        answers(1, () -> x.count(1));
        answers(1, () -> x.with(0, 8, 1));
    }

    private void sweepAll() {
        StyleSheet x = Sheets.fullOfSets();
        answers(255, () -> x.sweep());
        answers(1, () -> x.count(1));
        answers(0, () -> x.count(3));
        answers(-1, () -> x.size(1));
        answers(-1, () -> x.size(255));
        answers(1, () -> x.with(0, 16, 254));
    }

    private void sweepLeavesMarked() {
        StyleSheet x = Sheets.fullOfSets();
        x.mark(255);
        x.mark(1);
        x.mark(100);
        answers(252, () -> x.sweep());
        answers(1, () -> x.get(255, 0));
        answers(0, () -> x.get(1, 16));
        answers(99, () -> x.get(100, 16));
        answers(4, () -> x.count(1));
        answers(3, () -> x.count(3));
    }

    private void noneMarkedThen() {
        StyleSheet x = new StyleSheet();
        x.mark(x.with(0, 8, 1));
        x.mark(0);
        answers(0, () -> x.sweep());
        answers(1, () -> x.mark(1));
        answers(2, () -> x.mark(0));
        answers(0, () -> x.sweep());
        answers(1, () -> x.mark(0));
        answers(1, () -> x.sweep());
        answers(1, () -> x.mark(0));
    }

    private void sweptValues() {
        StyleSheet x = new StyleSheet();
        x.with(x.with(0, 8, 1), 9, 2);
        answers(2, () -> x.sweep());
        answers(1, () -> x.with(0, 10, 3));
        answers(2, () -> x.with(0, 11, 4));
        answers(-1, () -> x.get(1, 8));
        answers(-1, () -> x.get(2, 9));
        answers(1, () -> x.size(2));
        answers(2, () -> x.count(3));
        refuses(NO_ELEMENT, () -> x.get(3, 8));
    }

    private void sweepLast() {
        StyleSheet x = new StyleSheet();
        IntStream.range(0, 254).forEach(v -> x.mark(x.with(0, 16, v)));
        answers(255, () -> x.with(0, 0, 1));
        answers(1, () -> x.sweep());
        answers(-1, () -> x.size(255));
        answers(255, () -> x.count(1));
    }

    private void sweepLeavesStyles() {
        StyleSheet x = Sheets.mixed();
        answers(2, () -> x.sweep());
        answers(5, () -> x.count(0));
        answers(6, () -> x.count(2));
        answers(2, () -> x.count(1));
        answers(77, () -> x.resolve(0, -1, -1, 9));
        answers(5, () -> x.value(4, 8));
    }

    private void count() {
        test("19 count: of nothing", this::countNothing);
        test("19 count: set 0, too", this::countEmptySet);
        test("19 count: all styles", this::countStyles);
        test("19 count: all sets", this::countSets);
        test("19 count: own values of all styles", this::countOwn);
        test("19 count: values of all sets", this::countValues);
        test("19 count: the longest chain", this::countLongest);
        test("19 count: the longest chain, if it is style 0's, or there is none", this::countLongestAtEnds);
        test("19 count: -1 for another what", this::countAnother);
    }

    private void countNothing() {
        StyleSheet x = new StyleSheet();
        answers(0, () -> x.count(0));
        answers(0, () -> x.count(2));
        answers(0, () -> x.count(3));
        answers(0, () -> x.count(4));
    }

    private void countEmptySet() {
        StyleSheet x = new StyleSheet();
        answers(1, () -> x.count(1));
        x.with(0, 8, 1);
        answers(2, () -> x.count(1));
        x.sweep();
        answers(1, () -> x.count(1));
    }

    private void countStyles() {
        StyleSheet x = new StyleSheet();
        IntStream.range(0, 64).forEach(style -> {
            x.make(style % 2, -1);
            answers(style + 1, () -> x.count(0));
        });
        x.drop(0);
        answers(63, () -> x.count(0));
    }

    private void countSets() {
        StyleSheet x = Sheets.fullOfSets();
        answers(256, () -> x.count(1));
        answers(255, () -> x.count(3));
    }

    private void countOwn() {
        StyleSheet x = Sheets.fullOfStyles();
        IntStream.range(0, 64).forEach(style -> x.own(style, style % 24, 0));
        answers(64, () -> x.count(2));
        IntStream.range(0, 24).forEach(property -> x.own(63, property, 1));
        answers(87, () -> x.count(2));
        x.own(0, 0, -1);
        x.own(0, 1, -1);
        answers(86, () -> x.count(2));
        x.drop(63);
        answers(62, () -> x.count(2));
        answers(0, () -> x.count(3));
    }

    private void countValues() {
        StyleSheet x = new StyleSheet();
        IntStream.range(0, 24).forEach(p -> x.with(p, p, 0));
        answers(300, () -> x.count(3));
        x.with(24, 0, 1);
        answers(324, () -> x.count(3));
        x.with(24, 0, 1);
        answers(324, () -> x.count(3));
        x.mark(24);
        x.sweep();
        answers(24, () -> x.count(3));
        answers(0, () -> x.count(2));
    }

    private void countLongest() {
        StyleSheet x = Sheets.oneChain(1);
        answers(64, () -> x.count(4));
        x.rebase(63, -1);
        answers(63, () -> x.count(4));
        x.rebase(0, 63);
        answers(64, () -> x.count(4));
        x.rebase(30, -1);
        answers(33, () -> x.count(4));
        answers(1, () -> Sheets.fullOfStyles().count(4));
    }

    private void countLongestAtEnds() {
        StyleSheet x = new StyleSheet();
        x.make(0, -1);
        answers(1, () -> x.count(4));
        x.make(0, -1);
        x.rebase(0, 1);
        answers(2, () -> x.count(4));
        x.drop(0);
        answers(1, () -> x.count(4));
        x.drop(1);
        answers(0, () -> x.count(4));
    }

    private void countAnother() {
        StyleSheet x = Sheets.mixed();
        for (int what : new int[] {LOW, -2, -1, 5, 6, 256, 65536, HIGH}) {
            answers(-1, () -> x.count(what));
        }
    }
}
