import java.util.stream.IntStream;

/** The boundary cases of the document's Terms: a test of its own for each. */
final class TermsTest extends Due {
    /** Numbers that would be another, fitting one if only their low 8 or 16 bits were looked at. */
    private static final int[] WRAPPED = {LOW, LOW + 1, -65536, -65535, -256, -255, 65536, 65537, 1 << 24, 1 << 30};

    /** In Sheets.mixed() style 1 was dropped, and these others were never there. */
    private static final int[] NO_STYLES = {LOW, -64, -2, 1, 6, 63, 64, 65, 256, 65536, HIGH};

    public static void main(String[] args) {
        TermsTest t = new TermsTest();
        t.test("an object is used for at most 512 calls", t::lastCall);
        t.test("properties 0 .. 23: the least and the greatest", t::endsOfProperties);
        t.test("properties 0 .. 23: -1 is too small", () -> t.noSuchProperty(-1));
        t.test("properties 0 .. 23: 24 is too large", () -> t.noSuchProperty(24));
        t.test("properties 0 .. 23: far away", t::farProperties);
        t.test("values from 0 to 1 for properties 0 .. 7", () -> t.values(0, 7, 1));
        t.test("values from 0 to 255 for properties 8 .. 15", () -> t.values(8, 15, 255));
        t.test("values from 0 to 65535 for properties 16 .. 23", () -> t.values(16, 23, 65535));
        t.test("values: what wraps around is none", t::wrappedValues);
        t.test("the usual value is at first 0", t::usualAtFirst);
        t.test("styles 0 .. 63: the greatest number is one for every call", t::greatestStyle);
        t.test("styles 0 .. 63: -1 is no style", () -> t.noSuchStyle(-1));
        t.test("styles 0 .. 63: 64 is no style", () -> t.noSuchStyle(64));
        t.test("styles: one never made is no style", () -> t.noSuchStyle(3));
        t.test("styles: far away", t::farStyles);
        t.test("the base is a style of its kind", t::basesKeepTheirKind);
        t.test("no chain comes to a style twice", t::noRing);
        t.test("the value is the own one of the first style of the chain that has one", t::firstOfChain);
        t.test("perhaps none of the chain has one", t::noneOfChain);
        t.test("sets 0 .. 255: the greatest number is one for every call", t::greatestSet);
        t.test("sets 0 .. 255: -1 is no set", () -> t.noSuchSet(-1));
        t.test("sets 0 .. 255: 256 is no set", () -> t.noSuchSet(256));
        t.test("sets: one never made is no set", () -> t.noSuchSet(1));
        t.test("sets: far away", t::farSets);
        t.test("no two sets are alike", t::noTwoAlike);
        t.test("no two sets are alike, though a lesser number is free", t::alikeAboveAFreeNumber);
        t.test("sets that differ only in having a value 0 are two", t::zeroIsAValue);
        t.test("sets that differ in one property alone are two, whichever it is", t::differentInOne);
        t.test("set 0 has no values and is always there", t::emptySet);
        t.test("a new set gets the least number that none has", t::leastSet);
        t.test("no number left: with tells a set that is there", t::fullWith);
        t.test("no number left: over tells a set that is there", t::fullOver);
        t.test("no number left: lean tells a set that is there", t::fullLean);
        t.test("resolved: the set's value goes first", t::resolvedBySet);
        t.test("resolved: otherwise that of c", t::resolvedByC);
        t.test("resolved: otherwise that of q", t::resolvedByQ);
        t.test("resolved: otherwise the usual one", t::resolvedByUsual);
        t.test("resolved: c and q may be -1", t::resolvedWithoutStyles);
        t.test("where a base is none, IllegalArgumentException is thrown", t::wrongBase);
        t.test("where c is none, IllegalArgumentException is thrown", t::wrongC);
        t.test("where q is none, IllegalArgumentException is thrown", t::wrongQ);
        t.test("IllegalStateException: there is no number left, until one is free", t::numbersComeBack);
        t.end();
    }

    private void lastCall() {
        StyleSheet x = new StyleSheet();
        x.make(0, -1);
        for (int call = 2; call < 512; call++) {
            x.own(0, 23, call);
        }
        answers(511, () -> x.value(0, 23));
    }

    private void endsOfProperties() {
        for (int property : new int[] {0, 23}) {
            StyleSheet x = new StyleSheet();
            x.make(0, -1);
            passes(() -> x.own(0, property, 1));
            answers(1, () -> x.value(0, property));
            answers(0, () -> x.giver(0, property));
            passes(() -> x.usual(property, 1));
            answers(1, () -> x.with(0, property, 1));
            answers(1, () -> x.get(1, property));
            answers(1, () -> x.resolve(0, -1, -1, property));
        }
    }

    private void noSuchProperty(int property) {
        StyleSheet x = new StyleSheet();
        x.make(0, -1);
        refuses(ARGUMENT, () -> x.own(0, property, 0));
        refuses(ARGUMENT, () -> x.own(0, property, -1));
        refuses(ARGUMENT, () -> x.value(0, property));
        refuses(ARGUMENT, () -> x.giver(0, property));
        refuses(ARGUMENT, () -> x.usual(property, 0));
        refuses(ARGUMENT, () -> x.with(0, property, 0));
        refuses(ARGUMENT, () -> x.with(0, property, -1));
        refuses(ARGUMENT, () -> x.get(0, property));
        refuses(ARGUMENT, () -> x.resolve(0, 0, -1, property));
        refuses(ARGUMENT, () -> x.resolve(0, -1, -1, property));
    }

    private void farProperties() {
        for (int property : new int[] {LOW, LOW + 23, -24, -2, 25, 32, 256, 65536, HIGH}) {
            noSuchProperty(property);
        }
    }

    private void values(int first, int last, int greatest) {
        StyleSheet x = new StyleSheet();
        x.make(1, -1);
        for (int i = first; i <= last; i++) {
            int property = i;
            for (int value : new int[] {0, greatest}) {
                passes(() -> x.own(0, property, value));
                answers(value, () -> x.value(0, property));
                passes(() -> x.usual(property, value));
                answers(value, () -> x.resolve(0, -1, -1, property));
                answers(value, () -> x.get(x.with(0, property, value), property));
            }
            passes(() -> x.own(0, property, -1));
            answers(0, () -> x.with(0, property, -1));
            refusesValue(x, property, greatest + 1);
            refusesValue(x, property, -2);
            refuses(ARGUMENT, () -> x.usual(property, -1));
            answers(-1, () -> x.value(0, property));
            answers(greatest, () -> x.resolve(0, -1, -1, property));
        }
    }

    private void refusesValue(StyleSheet x, int property, int value) {
        refuses(ARGUMENT, () -> x.own(0, property, value));
        refuses(ARGUMENT, () -> x.usual(property, value));
        refuses(ARGUMENT, () -> x.with(0, property, value));
    }

    private void wrappedValues() {
        for (int property : new int[] {0, 8, 16}) {
            StyleSheet x = new StyleSheet();
            x.make(1, -1);
            for (int value : WRAPPED) {
                refusesValue(x, property, value);
            }
            refusesValue(x, property, HIGH);
            answers(1, () -> x.count(1));
            answers(0, () -> x.count(2));
        }
    }

    private void usualAtFirst() {
        StyleSheet x = new StyleSheet();
        x.make(0, -1);
        x.make(1, -1);
        IntStream.range(0, 24).forEach(p -> answers(0, () -> x.resolve(0, 0, 1, p)));
    }

    private void greatestStyle() {
        StyleSheet x = Sheets.oneChain(1);
        passes(() -> x.own(63, 8, 9));
        answers(9, () -> x.value(63, 8));
        answers(63, () -> x.giver(63, 8));
        answers(62, () -> x.style(63, 2));
        answers(9, () -> x.resolve(0, -1, 63, 8));
        answers(0, () -> x.lean(x.with(0, 8, 9), -1, 63));
        answers(-1, () -> x.differ(0, 1, -1, 63));
        is(true, () -> x.rebase(63, -1));
        is(true, () -> x.rebase(0, 63));
        answers(63, () -> x.style(0, 2));
        answers(1, () -> x.drop(63));
        answers(-1, () -> x.style(0, 2));
        answers(63, () -> x.make(0, -1));
        answers(0, () -> x.style(63, 3));
        answers(0, () -> x.resolve(0, 63, -1, 8));
    }

    private void noSuchStyle(int style) {
        StyleSheet x = new StyleSheet();
        x.make(0, -1);
        x.make(0, 0);
        x.make(1, -1);
        refuses(NO_ELEMENT, () -> x.drop(style));
        refuses(NO_ELEMENT, () -> x.rebase(style, -1));
        refuses(NO_ELEMENT, () -> x.rebase(style, 0));
        refuses(NO_ELEMENT, () -> x.own(style, 0, 1));
        refuses(NO_ELEMENT, () -> x.own(style, 0, -1));
        refuses(NO_ELEMENT, () -> x.value(style, 0));
        refuses(NO_ELEMENT, () -> x.giver(style, 0));
        IntStream.range(0, 5).forEach(what -> refuses(NO_ELEMENT, () -> x.style(style, what)));
        answers(3, () -> x.count(0));
    }

    private void farStyles() {
        for (int style : new int[] {LOW, LOW + 1, -64, -2, 65, 128, 256, 65536, HIGH}) {
            noSuchStyle(style);
        }
    }

    private void basesKeepTheirKind() {
        StyleSheet x = new StyleSheet();
        x.make(0, -1);
        x.make(1, -1);
        x.make(0, 0);
        x.make(1, 1);
        refuses(ARGUMENT, () -> x.make(0, 3));
        refuses(ARGUMENT, () -> x.make(1, 2));
        refuses(ARGUMENT, () -> x.rebase(2, 1));
        refuses(ARGUMENT, () -> x.rebase(3, 0));
        // A number that is given again may be one of the other kind.
        x.drop(2);
        answers(2, () -> x.make(1, 3));
        refuses(ARGUMENT, () -> x.make(0, 2));
        is(true, () -> x.rebase(2, 1));
    }

    /** Tries to base each of the styles on each: whatever is granted, chains end and hold no style twice. */
    private void noRing() {
        StyleSheet x = new StyleSheet();
        for (int style = 0; style < 6; style++) {
            x.make(0, style - 1);
        }
        for (int tried = 0; tried < 36; tried++) {
            int style = tried % 6;
            int base = tried / 6;
            boolean comesBack = isOnChain(x, style, base);
            is(!comesBack, () -> x.rebase(style, base));
            answers(comesBack ? 0 : 1, () -> x.style(style, 2) == base ? 1 : 0);
        }
        IntStream.range(0, 6).forEach(style -> is(true, () -> x.style(style, 0) <= 6));
    }

    private static boolean isOnChain(StyleSheet x, int sought, int style) {
        int at = style;
        for (int steps = 0; steps < 64 && at != -1; steps++) {
            if (at == sought) {
                return true;
            }
            at = x.style(at, 2);
        }
        return false;
    }

    private void firstOfChain() {
        StyleSheet x = Sheets.oneChain(0);
        x.own(0, 20, 500);
        x.own(31, 20, 0);
        answers(0, () -> x.value(63, 20));
        answers(0, () -> x.value(31, 20));
        answers(500, () -> x.value(30, 20));
        x.own(63, 20, 7);
        answers(7, () -> x.value(63, 20));
        answers(0, () -> x.value(62, 20));
    }

    private void noneOfChain() {
        StyleSheet x = Sheets.oneChain(0);
        x.own(63, 19, 1);
        x.usual(20, 9);
        answers(-1, () -> x.value(63, 20));
        answers(-1, () -> x.giver(63, 20));
        answers(-1, () -> x.value(62, 19));
    }

    private void greatestSet() {
        StyleSheet x = Sheets.fullOfSets();
        answers(1, () -> x.get(255, 0));
        answers(1, () -> x.size(255));
        answers(255, () -> x.with(255, 0, 1));
        answers(255, () -> x.over(255, 255));
        answers(255, () -> x.lean(255, -1, -1));
        answers(1, () -> x.resolve(255, -1, -1, 0));
        answers(0, () -> x.differ(255, 0, -1, -1));
        answers(0, () -> x.differ(0, 255, -1, -1));
        answers(1, () -> x.mark(255));
        answers(254, () -> x.sweep());
        answers(1, () -> x.get(255, 0));
        answers(1, () -> x.sweep());
        answers(-1, () -> x.size(255));
    }

    private void noSuchSet(int set) {
        StyleSheet x = new StyleSheet();
        refuses(NO_ELEMENT, () -> x.with(set, 0, 1));
        refuses(NO_ELEMENT, () -> x.with(set, 0, -1));
        refuses(NO_ELEMENT, () -> x.over(set, 0));
        refuses(NO_ELEMENT, () -> x.over(0, set));
        refuses(NO_ELEMENT, () -> x.over(set, set));
        refuses(NO_ELEMENT, () -> x.lean(set, -1, -1));
        refuses(NO_ELEMENT, () -> x.get(set, 0));
        refuses(NO_ELEMENT, () -> x.resolve(set, -1, -1, 0));
        refuses(NO_ELEMENT, () -> x.differ(set, 0, -1, -1));
        refuses(NO_ELEMENT, () -> x.differ(0, set, -1, -1));
        refuses(NO_ELEMENT, () -> x.differ(set, set, -1, -1));
        refuses(NO_ELEMENT, () -> x.mark(set));
        answers(-1, () -> x.size(set));
        answers(1, () -> x.count(1));
    }

    private void farSets() {
        for (int set : new int[] {LOW, LOW + 1, -256, -2, 255, 257, 512, 65536, HIGH}) {
            noSuchSet(set);
        }
    }

    private void noTwoAlike() {
        StyleSheet x = new StyleSheet();
        answers(1, () -> x.with(0, 3, 1));
        answers(2, () -> x.with(1, 20, 500));
        answers(3, () -> x.with(0, 20, 500));
        answers(2, () -> x.with(3, 3, 1));
        answers(2, () -> x.over(1, 3));
        answers(2, () -> x.over(3, 1));
        answers(2, () -> x.over(2, 2));
        answers(2, () -> x.lean(2, -1, -1));
        answers(1, () -> x.with(2, 20, -1));
        answers(4, () -> x.count(1));
    }

    private void alikeAboveAFreeNumber() {
        StyleSheet x = new StyleSheet();
        x.with(0, 8, 1);
        x.with(0, 8, 2);
        x.with(2, 9, 3);
        x.mark(2);
        x.mark(3);
        x.sweep();
        answers(2, () -> x.with(0, 8, 2));
        answers(2, () -> x.with(3, 9, -1));
        answers(3, () -> x.over(3, 2));
        x.usual(9, 3);
        answers(2, () -> x.lean(3, -1, -1));
        answers(-1, () -> x.size(1));
        answers(3, () -> x.count(1));
    }

    private void zeroIsAValue() {
        StyleSheet x = new StyleSheet();
        answers(1, () -> x.with(0, 0, 0));
        answers(2, () -> x.with(1, 23, 0));
        answers(0, () -> x.get(2, 23));
        answers(1, () -> x.size(1));
        answers(2, () -> x.size(2));
        answers(0, () -> x.size(0));
    }

    private void differentInOne() {
        StyleSheet x = new StyleSheet();
        for (int i = 0; i < 24; i++) {
            int property = i;
            answers(2 * i + 1, () -> x.with(0, property, 0));
            answers(2 * i + 2, () -> x.with(0, property, 1));
        }
        answers(49, () -> x.count(1));
    }

    private void emptySet() {
        StyleSheet x = new StyleSheet();
        answers(0, () -> x.size(0));
        answers(0, () -> x.with(x.with(0, 5, 1), 5, -1));
        answers(0, () -> x.with(0, 5, -1));
        answers(0, () -> x.over(0, 0));
        answers(0, () -> x.lean(0, -1, -1));
        answers(1, () -> x.sweep());
        answers(0, () -> x.size(0));
        answers(0, () -> x.sweep());
        answers(0, () -> x.size(0));
        answers(1, () -> x.mark(0));
        answers(0, () -> x.sweep());
        answers(0, () -> x.size(0));
        IntStream.range(0, 24).forEach(p -> answers(-1, () -> x.get(0, p)));
    }

    private void leastSet() {
        StyleSheet x = new StyleSheet();
        IntStream.range(0, 6).forEach(v -> answers(v + 1, () -> x.with(0, 8, v)));
        x.mark(2);
        x.mark(3);
        x.mark(5);
        answers(3, () -> x.sweep());
        answers(1, () -> x.with(0, 9, 1));
        answers(4, () -> x.over(1, 2));
        x.usual(9, 1);
        answers(2, () -> x.lean(4, -1, -1));
        x.usual(8, 1);
        answers(1, () -> x.with(4, 8, -1));
        answers(6, () -> x.with(0, 9, 2));
        answers(7, () -> x.over(6, 2));
        x.usual(9, 0);
        answers(8, () -> x.with(7, 10, 1));
        answers(9, () -> x.lean(8, -1, -1));
    }

    private void fullWith() {
        StyleSheet x = Sheets.fullOfSets();
        refuses(STATE, () -> x.with(0, 16, 254));
        refuses(STATE, () -> x.with(255, 16, 0));
        answers(254, () -> x.with(0, 16, 253));
        answers(1, () -> x.with(254, 16, 0));
        answers(0, () -> x.with(255, 0, -1));
        answers(255, () -> x.with(255, 1, -1));
        answers(256, () -> x.count(1));
    }

    private void fullOver() {
        StyleSheet x = Sheets.fullOfSets();
        refuses(STATE, () -> x.over(1, 255));
        refuses(STATE, () -> x.over(255, 1));
        answers(2, () -> x.over(1, 2));
        answers(255, () -> x.over(0, 255));
        answers(0, () -> x.over(0, 0));
        answers(256, () -> x.count(1));
    }

    private void fullLean() {
        StyleSheet x = Sheets.full();
        refuses(STATE, () -> x.lean(2, -1, -1));
        refuses(STATE, () -> x.lean(2, 0, 1));
        answers(255, () -> x.lean(255, -1, -1));
        answers(0, () -> x.lean(0, -1, -1));
        x.usual(0, 1);
        answers(0, () -> x.lean(2, -1, -1));
        x.usual(0, 0);
        x.usual(1, 0);
        answers(2, () -> x.lean(2, -1, -1));
        answers(256, () -> x.count(1));
    }

    /** Property 16 by the set 1, by c = 0, by q = 1 and usually is 4, 3, 2 and 1. */
    private static StyleSheet allGive() {
        StyleSheet x = new StyleSheet();
        x.make(0, -1);
        x.make(1, -1);
        x.usual(16, 1);
        x.own(1, 16, 2);
        x.own(0, 16, 3);
        x.with(0, 16, 4);
        return x;
    }

    private void resolvedBySet() {
        StyleSheet x = allGive();
        answers(4, () -> x.resolve(1, 0, 1, 16));
        answers(0, () -> x.resolve(x.with(0, 16, 0), 0, 1, 16));
        answers(3, () -> x.resolve(x.with(0, 17, 4), 0, 1, 16));
    }

    private void resolvedByC() {
        StyleSheet x = allGive();
        answers(3, () -> x.resolve(0, 0, 1, 16));
        x.own(0, 16, 0);
        answers(0, () -> x.resolve(0, 0, 1, 16));
        x.own(0, 16, -1);
        x.make(0, -1);
        x.own(2, 16, 0);
        x.rebase(0, 2);
        answers(0, () -> x.resolve(0, 0, 1, 16));
    }

    private void resolvedByQ() {
        StyleSheet x = allGive();
        x.own(0, 16, -1);
        answers(2, () -> x.resolve(0, 0, 1, 16));
        x.own(1, 16, 0);
        answers(0, () -> x.resolve(0, 0, 1, 16));
        x.own(1, 16, -1);
        x.make(1, -1);
        x.own(2, 16, 0);
        x.rebase(1, 2);
        answers(0, () -> x.resolve(0, 0, 1, 16));
    }

    private void resolvedByUsual() {
        StyleSheet x = allGive();
        x.own(0, 16, -1);
        x.own(1, 16, -1);
        answers(1, () -> x.resolve(0, 0, 1, 16));
        x.usual(16, 0);
        answers(0, () -> x.resolve(0, 0, 1, 16));
    }

    private void resolvedWithoutStyles() {
        StyleSheet x = allGive();
        answers(2, () -> x.resolve(0, -1, 1, 16));
        answers(3, () -> x.resolve(0, 0, -1, 16));
        answers(1, () -> x.resolve(0, -1, -1, 16));
        answers(4, () -> x.resolve(1, -1, -1, 16));
    }

    private void wrongBase() {
        StyleSheet x = Sheets.mixed();
        for (int base : NO_STYLES) {
            refuses(ARGUMENT, () -> x.make(0, base));
            refuses(ARGUMENT, () -> x.make(1, base));
            refuses(ARGUMENT, () -> x.rebase(4, base));
            refuses(ARGUMENT, () -> x.rebase(5, base));
        }
        answers(5, () -> x.count(0));
        answers(1, () -> x.make(0, -1));
        is(true, () -> x.rebase(4, -1));
    }

    private void wrongC() {
        StyleSheet x = Sheets.mixed();
        for (int c : NO_STYLES) {
            refusesStyles(x, c, -1);
        }
        refusesStyles(x, 2, -1);
        refusesStyles(x, 3, 3);
        answers(5, () -> x.resolve(0, 4, -1, 8));
    }

    private void wrongQ() {
        StyleSheet x = Sheets.mixed();
        for (int q : NO_STYLES) {
            refusesStyles(x, -1, q);
        }
        refusesStyles(x, -1, 0);
        refusesStyles(x, 4, 4);
        answers(6, () -> x.resolve(0, -1, 5, 8));
    }

    private void refusesStyles(StyleSheet x, int c, int q) {
        refuses(ARGUMENT, () -> x.lean(2, c, q));
        refuses(ARGUMENT, () -> x.lean(0, c, q));
        // Also where the set itself has the value, so that no style need be looked at.
        refuses(ARGUMENT, () -> x.resolve(2, c, q, 8));
        refuses(ARGUMENT, () -> x.resolve(0, c, q, 8));
        refuses(ARGUMENT, () -> x.differ(1, 2, c, q));
        refuses(ARGUMENT, () -> x.differ(2, 2, c, q));
    }

    private void numbersComeBack() {
        StyleSheet x = Sheets.full();
        refuses(STATE, () -> x.make(0, -1));
        refuses(STATE, () -> x.with(0, 17, 1));
        x.drop(63);
        answers(63, () -> x.make(0, 0));
        refuses(STATE, () -> x.make(0, -1));
        x.mark(2);
        x.sweep();
        answers(1, () -> x.with(0, 17, 1));
        answers(3, () -> x.with(0, 17, 2));
    }
}
