import java.util.stream.IntStream;

/** The boundary cases that promises 1 to 9 name: a test of its own for each. */
final class StyleBoundaryTest extends Due {
    public static void main(String[] args) {
        StyleBoundaryTest t = new StyleBoundaryTest();
        t.newObject();
        t.make();
        t.drop();
        t.rebase();
        t.own();
        t.valueAndGiver();
        t.style();
        t.usual();
        t.end();
    }

    private void newObject() {
        test("1 a new object: no styles", this::noStyles);
        test("1 a new object: set 0 alone", this::setZeroAlone);
        test("1 a new object: all usual values 0", this::usualZero);
        test("1 a new object: nothing marked", this::nothingMarked);
        test("1 a new object: knows nothing of another one", this::apart);
    }

    private void noStyles() {
        StyleSheet x = new StyleSheet();
        answers(0, () -> x.count(0));
        answers(0, () -> x.count(2));
        IntStream.range(0, 64).forEach(style -> refuses(NO_ELEMENT, () -> x.style(style, 3)));
        answers(0, () -> x.make(0, -1));
    }

    private void setZeroAlone() {
        StyleSheet x = new StyleSheet();
        answers(1, () -> x.count(1));
        answers(0, () -> x.count(3));
        answers(0, () -> x.size(0));
        IntStream.range(1, 256).forEach(set -> answers(-1, () -> x.size(set)));
        answers(1, () -> x.with(0, 0, 0));
    }

    private void usualZero() {
        StyleSheet x = new StyleSheet();
        IntStream.range(0, 24).forEach(property -> answers(0, () -> x.resolve(0, -1, -1, property)));
    }

    private void nothingMarked() {
        StyleSheet x = new StyleSheet();
        answers(1, () -> x.mark(0));
        StyleSheet y = new StyleSheet();
        answers(1, () -> y.with(0, 0, 0));
        answers(1, () -> y.sweep());
    }

    private void apart() {
        Sheets.full();
        Sheets.mixed();
        StyleSheet x = new StyleSheet();
        answers(0, () -> x.count(0));
        answers(1, () -> x.count(1));
        answers(0, () -> x.resolve(0, -1, -1, 9));
        answers(1, () -> x.mark(0));
    }

    private void make() {
        test("2 make: the first style is 0", () -> answers(0, () -> new StyleSheet().make(1, -1)));
        test("2 make: a new style is without own values, also where its number is given again", this::withoutOwn);
        test("2 make: the least number that none has", this::leastStyle);
        test("2 make: the number 0, if it is free again", this::leastStyleIsZero);
        test("2 make: the last number, and none behind it", this::lastStyle);
        test("2 make: no such kind", this::noSuchKind);
        test("2 make: base may be -1", this::makeWithoutBase);
        test("2 make: base is a style of the other kind", this::makeOnOtherKind);
        test("2 make: base is no style", this::makeOnNone);
        test("2 make: base is the very number that would be given", this::makeOnItself);
    }

    private void withoutOwn() {
        StyleSheet x = new StyleSheet();
        x.make(0, -1);
        IntStream.range(0, 24).forEach(property -> x.own(0, property, 1));
        x.drop(0);
        answers(0, () -> x.make(0, -1));
        answers(0, () -> x.style(0, 4));
        IntStream.range(0, 24).forEach(property -> answers(-1, () -> x.value(0, property)));
        // One with a base has the base's values, but no own ones.
        x.own(0, 3, 1);
        answers(1, () -> x.make(0, 0));
        answers(0, () -> x.style(1, 4));
        answers(1, () -> x.value(1, 3));
    }

    private void leastStyle() {
        StyleSheet x = new StyleSheet();
        IntStream.range(0, 6).forEach(style -> answers(style, () -> x.make(0, -1)));
        x.drop(4);
        x.drop(2);
        answers(2, () -> x.make(1, -1));
        answers(4, () -> x.make(1, -1));
        answers(6, () -> x.make(1, -1));
    }

    private void leastStyleIsZero() {
        StyleSheet x = Sheets.oneChain(0);
        x.drop(0);
        answers(0, () -> x.make(0, 63));
        answers(64, () -> x.style(0, 0));
        refuses(STATE, () -> x.make(0, -1));
    }

    private void lastStyle() {
        StyleSheet x = new StyleSheet();
        IntStream.range(0, 63).forEach(style -> answers(style, () -> x.make(0, -1)));
        answers(63, () -> x.make(1, -1));
        refuses(STATE, () -> x.make(1, -1));
        refuses(STATE, () -> x.make(1, 63));
        refuses(STATE, () -> x.make(0, 62));
        answers(64, () -> x.count(0));
        answers(0, () -> x.drop(63));
        answers(63, () -> x.make(0, -1));
        refuses(STATE, () -> x.make(0, -1));
    }

    private void noSuchKind() {
        StyleSheet x = new StyleSheet();
        x.make(0, -1);
        for (int kind : new int[] {LOW, -2, -1, 2, 3, 256, 65536, HIGH}) {
            refuses(ARGUMENT, () -> x.make(kind, -1));
            refuses(ARGUMENT, () -> x.make(kind, 0));
        }
        answers(1, () -> x.count(0));
    }

    private void makeWithoutBase() {
        StyleSheet x = new StyleSheet();
        answers(0, () -> x.make(0, -1));
        answers(1, () -> x.make(1, -1));
        answers(-1, () -> x.style(0, 2));
        answers(-1, () -> x.style(1, 2));
        answers(1, () -> x.style(1, 0));
    }

    private void makeOnOtherKind() {
        StyleSheet x = Sheets.fullOfStyles();
        x.drop(40);
        refuses(ARGUMENT, () -> x.make(0, 1));
        refuses(ARGUMENT, () -> x.make(0, 63));
        refuses(ARGUMENT, () -> x.make(1, 0));
        refuses(ARGUMENT, () -> x.make(1, 62));
        answers(40, () -> x.make(1, 63));
    }

    private void makeOnNone() {
        StyleSheet x = new StyleSheet();
        x.make(0, -1);
        x.make(0, 0);
        x.drop(1);
        for (int base : new int[] {LOW, -2, 1, 2, 63, 64, 65, HIGH}) {
            refuses(ARGUMENT, () -> x.make(0, base));
        }
        answers(1, () -> x.make(0, 0));
    }

    private void makeOnItself() {
        StyleSheet x = new StyleSheet();
        refuses(ARGUMENT, () -> x.make(0, 0));
        refuses(ARGUMENT, () -> x.make(1, 0));
        answers(0, () -> x.make(0, -1));
        refuses(ARGUMENT, () -> x.make(0, 1));
    }

    private void drop() {
        test("3 drop: a style is there no more", this::dropped);
        test("3 drop: its own values are gone", this::ownGone);
        test("3 drop: its number may be given again", this::numberAgain);
        test("3 drop: those whose base it was are based on its base", this::heirsRise);
        test("3 drop: perhaps on none", this::heirsOnNone);
        test("3 drop: none was based on it", this::noHeirs);
        test("3 drop: all others were based on it", this::allHeirs);
        test("3 drop: those based on it by way of another are not counted", this::heirsOfHeirs);
        test("3 drop: an heir with a lesser number", this::lesserHeir);
        test("3 drop: the ends of the longest chain", this::endsOfChain);
        test("3 drop: no such style", this::dropNone);
    }

    private void dropped() {
        StyleSheet x = Sheets.mixed();
        answers(1, () -> x.drop(3));
        refuses(NO_ELEMENT, () -> x.style(3, 0));
        refuses(NO_ELEMENT, () -> x.value(3, 23));
        refuses(NO_ELEMENT, () -> x.own(3, 23, 1));
        refuses(NO_ELEMENT, () -> x.rebase(3, -1));
        refuses(NO_ELEMENT, () -> x.drop(3));
        refuses(ARGUMENT, () -> x.rebase(5, 3));
        refuses(ARGUMENT, () -> x.resolve(0, -1, 3, 23));
        answers(4, () -> x.count(0));
    }

    private void ownGone() {
        StyleSheet x = Sheets.mixed();
        answers(65535, () -> x.value(5, 23));
        answers(6, () -> x.count(2));
        answers(1, () -> x.drop(3));
        answers(-1, () -> x.value(5, 23));
        answers(-1, () -> x.giver(5, 23));
        answers(6, () -> x.value(5, 8));
        answers(5, () -> x.count(2));
        answers(0, () -> x.resolve(0, -1, 5, 23));
    }

    private void numberAgain() {
        StyleSheet x = Sheets.mixed();
        x.drop(3);
        answers(1, () -> x.make(0, -1));
        answers(3, () -> x.make(0, 0));
        // What was based on the old style 3 is not based on the new one.
        answers(2, () -> x.style(5, 2));
        answers(0, () -> x.style(3, 1));
        answers(0, () -> x.style(3, 3));
        answers(0, () -> x.style(3, 4));
    }

    private void heirsRise() {
        StyleSheet x = new StyleSheet();
        x.make(1, -1);
        x.make(1, 0);
        x.make(1, 1);
        x.make(1, 1);
        x.make(1, 0);
        answers(2, () -> x.drop(1));
        answers(0, () -> x.style(2, 2));
        answers(0, () -> x.style(3, 2));
        answers(0, () -> x.style(4, 2));
        answers(3, () -> x.style(0, 1));
    }

    private void heirsOnNone() {
        StyleSheet x = new StyleSheet();
        x.make(0, -1);
        x.make(0, 0);
        x.make(0, 0);
        answers(2, () -> x.drop(0));
        answers(-1, () -> x.style(1, 2));
        answers(-1, () -> x.style(2, 2));
        answers(1, () -> x.style(1, 0));
    }

    private void noHeirs() {
        StyleSheet x = new StyleSheet();
        x.make(0, -1);
        x.make(0, 0);
        x.make(1, -1);
        answers(0, () -> x.drop(1));
        answers(0, () -> x.drop(2));
        answers(0, () -> x.drop(0));
        answers(0, () -> x.count(0));
    }

    private void allHeirs() {
        StyleSheet x = new StyleSheet();
        x.make(0, -1);
        IntStream.range(1, 64).forEach(style -> x.make(0, 0));
        answers(63, () -> x.drop(0));
        IntStream.range(1, 64).forEach(style -> answers(-1, () -> x.style(style, 2)));
    }

    private void heirsOfHeirs() {
        StyleSheet x = Sheets.oneChain(1);
        answers(63, () -> x.style(0, 1));
        answers(1, () -> x.drop(0));
        answers(1, () -> x.style(2, 2));
        answers(-1, () -> x.style(1, 2));
    }

    private void lesserHeir() {
        StyleSheet x = new StyleSheet();
        x.make(0, -1);
        x.make(0, -1);
        x.make(0, 1);
        x.rebase(0, 2);
        answers(1, () -> x.drop(2));
        answers(1, () -> x.style(0, 2));
        answers(1, () -> x.drop(1));
        answers(-1, () -> x.style(0, 2));
    }

    private void endsOfChain() {
        StyleSheet x = Sheets.oneChain(0);
        answers(0, () -> x.drop(63));
        answers(63, () -> x.count(4));
        answers(1, () -> x.drop(0));
        answers(62, () -> x.count(4));
        answers(1, () -> x.drop(30));
        answers(61, () -> x.count(4));
        answers(29, () -> x.style(31, 2));
    }

    private void dropNone() {
        StyleSheet x = new StyleSheet();
        refuses(NO_ELEMENT, () -> x.drop(0));
        x.make(0, -1);
        for (int style : new int[] {LOW, -2, -1, 1, 63, 64, 65, 256, HIGH}) {
            refuses(NO_ELEMENT, () -> x.drop(style));
        }
        answers(0, () -> x.drop(0));
        refuses(NO_ELEMENT, () -> x.drop(0));
    }

    private void rebase() {
        test("4 rebase: base -1, none", this::rebaseOnNone);
        test("4 rebase: true also if it is the one it has", this::sameBase);
        test("4 rebase: false if base is itself", this::onItself);
        test("4 rebase: false if its chain would come back to it", this::comesBack);
        test("4 rebase: false at the ends of the longest chain", this::comesBackFromFar);
        test("4 rebase: those based on it come along", this::heirsComeAlong);
        test("4 rebase: IllegalArgumentException if base is of the other kind", this::rebaseOnOtherKind);
        test("4 rebase: IllegalArgumentException if base is no style", this::rebaseOnNoStyle);
    }

    private void rebaseOnNone() {
        StyleSheet x = new StyleSheet();
        x.make(0, -1);
        x.make(0, 0);
        is(true, () -> x.rebase(1, -1));
        answers(-1, () -> x.style(1, 2));
        answers(1, () -> x.style(1, 0));
        is(true, () -> x.rebase(1, -1));
        is(true, () -> x.rebase(0, -1));
        answers(-1, () -> x.style(0, 2));
    }

    private void sameBase() {
        StyleSheet x = new StyleSheet();
        x.make(0, -1);
        x.make(0, 0);
        is(true, () -> x.rebase(1, 0));
        answers(0, () -> x.style(1, 2));
        is(true, () -> x.rebase(0, -1));
        answers(-1, () -> x.style(0, 2));
    }

    private void onItself() {
        StyleSheet x = new StyleSheet();
        x.make(1, -1);
        x.make(1, 0);
        is(false, () -> x.rebase(0, 0));
        is(false, () -> x.rebase(1, 1));
        answers(-1, () -> x.style(0, 2));
        answers(0, () -> x.style(1, 2));
    }

    private void comesBack() {
        StyleSheet x = new StyleSheet();
        x.make(1, -1);
        x.make(1, 0);
        x.make(1, 1);
        x.make(1, 0);
        is(false, () -> x.rebase(0, 1));
        is(false, () -> x.rebase(0, 2));
        is(false, () -> x.rebase(0, 3));
        is(false, () -> x.rebase(1, 2));
        answers(-1, () -> x.style(0, 2));
        answers(0, () -> x.style(1, 2));
        is(true, () -> x.rebase(2, 3));
        is(true, () -> x.rebase(1, 2));
        answers(4, () -> x.style(1, 0));
    }

    private void comesBackFromFar() {
        StyleSheet x = Sheets.oneChain(0);
        is(false, () -> x.rebase(0, 63));
        is(false, () -> x.rebase(1, 63));
        is(false, () -> x.rebase(62, 63));
        answers(64, () -> x.count(4));
        is(true, () -> x.rebase(63, -1));
        is(true, () -> x.rebase(0, 63));
        answers(64, () -> x.style(62, 0));
        is(false, () -> x.rebase(63, 62));
    }

    private void heirsComeAlong() {
        StyleSheet x = new StyleSheet();
        x.make(1, -1);
        x.make(1, -1);
        x.make(1, 1);
        x.own(0, 8, 4);
        answers(-1, () -> x.value(2, 8));
        is(true, () -> x.rebase(1, 0));
        answers(4, () -> x.value(2, 8));
        answers(3, () -> x.style(2, 0));
        answers(2, () -> x.style(0, 1));
    }

    private void rebaseOnOtherKind() {
        StyleSheet x = new StyleSheet();
        x.make(0, -1);
        x.make(1, -1);
        refuses(ARGUMENT, () -> x.rebase(0, 1));
        refuses(ARGUMENT, () -> x.rebase(1, 0));
        answers(-1, () -> x.style(0, 2));
        answers(-1, () -> x.style(1, 2));
    }

    private void rebaseOnNoStyle() {
        StyleSheet x = new StyleSheet();
        x.make(0, -1);
        x.make(0, 0);
        x.make(0, 0);
        x.drop(2);
        for (int base : new int[] {LOW, -2, 2, 3, 63, 64, 65, HIGH}) {
            refuses(ARGUMENT, () -> x.rebase(1, base));
        }
        answers(0, () -> x.style(1, 2));
    }

    private void own() {
        test("5 own: the value becomes this, also where there was another one", this::ownAgain);
        test("5 own: -1 takes it away", this::ownTakenAway);
        test("5 own: -1 where there is none", this::ownTakenAwayTwice);
        test("5 own: 0 is a value", this::ownZero);
        test("5 own: one style's and one property's alone", this::ownAlone);
        test("5 own: all 24 properties", this::ownAll);
    }

    private void ownAgain() {
        StyleSheet x = new StyleSheet();
        x.make(0, -1);
        x.own(0, 16, 65535);
        x.own(0, 16, 0);
        answers(0, () -> x.value(0, 16));
        x.own(0, 16, 0);
        answers(1, () -> x.style(0, 4));
        x.own(0, 16, 65535);
        answers(65535, () -> x.value(0, 16));
        answers(1, () -> x.count(2));
    }

    private void ownTakenAway() {
        StyleSheet x = new StyleSheet();
        x.make(0, -1);
        x.make(0, 0);
        x.own(0, 8, 5);
        x.own(1, 8, 6);
        passes(() -> x.own(1, 8, -1));
        answers(5, () -> x.value(1, 8));
        answers(0, () -> x.giver(1, 8));
        answers(0, () -> x.style(1, 4));
        passes(() -> x.own(0, 8, -1));
        answers(-1, () -> x.value(1, 8));
        answers(0, () -> x.count(2));
    }

    private void ownTakenAwayTwice() {
        StyleSheet x = new StyleSheet();
        x.make(0, -1);
        x.make(0, 0);
        x.own(0, 8, 5);
        passes(() -> x.own(1, 8, -1));
        passes(() -> x.own(1, 8, -1));
        passes(() -> x.own(0, 23, -1));
        answers(5, () -> x.value(1, 8));
        answers(1, () -> x.count(2));
        answers(0, () -> x.style(1, 4));
    }

    private void ownZero() {
        StyleSheet x = new StyleSheet();
        x.make(0, -1);
        x.own(0, 0, 0);
        answers(0, () -> x.value(0, 0));
        answers(0, () -> x.giver(0, 0));
        answers(1, () -> x.style(0, 4));
        answers(1, () -> x.count(2));
    }

    private void ownAlone() {
        StyleSheet x = new StyleSheet();
        x.make(0, -1);
        x.make(0, 0);
        x.make(1, -1);
        x.own(1, 8, 9);
        answers(-1, () -> x.value(0, 8));
        answers(-1, () -> x.value(2, 8));
        answers(-1, () -> x.value(1, 7));
        answers(-1, () -> x.value(1, 9));
        answers(9, () -> x.value(1, 8));
    }

    private void ownAll() {
        StyleSheet x = new StyleSheet();
        x.make(0, -1);
        IntStream.range(0, 24).forEach(property -> x.own(0, property, property % 2));
        IntStream.range(0, 24).forEach(property -> answers(property % 2, () -> x.value(0, property)));
        answers(24, () -> x.style(0, 4));
    }

    private void valueAndGiver() {
        test("6 value: -1 if it has none", this::noValue);
        test("6 value: usual values are not looked at", this::valueIsNotUsual);
        test("6 value: from the far end of the longest chain", this::farValue);
        test("6 value: 0 of a nearer style hides what is behind it", this::zeroHides);
        test("7 giver: -1 if it has none", this::noGiver);
        test("7 giver: itself", this::giverIsItself);
        test("7 giver: the far end of the longest chain", this::farGiver);
        test("7 giver: the nearer one of two with the same value", this::nearerGiver);
    }

    private void noValue() {
        StyleSheet x = Sheets.oneChain(1);
        x.own(0, 1, 1);
        answers(-1, () -> x.value(63, 0));
        answers(-1, () -> x.value(0, 2));
        answers(1, () -> x.value(63, 1));
    }

    private void valueIsNotUsual() {
        StyleSheet x = new StyleSheet();
        x.make(0, -1);
        x.usual(20, 65535);
        answers(-1, () -> x.value(0, 20));
        answers(-1, () -> x.giver(0, 20));
    }

    private void farValue() {
        StyleSheet x = Sheets.oneChain(0);
        x.own(0, 23, 65535);
        answers(65535, () -> x.value(63, 23));
        answers(65535, () -> x.value(1, 23));
        answers(65535, () -> x.resolve(0, 63, -1, 23));
    }

    private void zeroHides() {
        StyleSheet x = new StyleSheet();
        x.make(0, -1);
        x.make(0, 0);
        x.own(0, 3, 1);
        x.own(1, 3, 0);
        answers(0, () -> x.value(1, 3));
        answers(1, () -> x.giver(1, 3));
    }

    private void noGiver() {
        StyleSheet x = Sheets.oneChain(1);
        x.own(63, 0, 1);
        answers(-1, () -> x.giver(62, 0));
        answers(-1, () -> x.giver(63, 1));
    }

    private void giverIsItself() {
        StyleSheet x = Sheets.oneChain(1);
        x.own(63, 0, 0);
        x.own(0, 0, 1);
        answers(63, () -> x.giver(63, 0));
        answers(0, () -> x.giver(0, 0));
    }

    private void farGiver() {
        StyleSheet x = Sheets.oneChain(1);
        x.own(0, 0, 0);
        answers(0, () -> x.giver(63, 0));
        answers(1, () -> x.drop(0));
        answers(-1, () -> x.giver(63, 0));
    }

    private void nearerGiver() {
        StyleSheet x = Sheets.oneChain(1);
        x.own(10, 0, 1);
        x.own(20, 0, 1);
        answers(20, () -> x.giver(63, 0));
        answers(20, () -> x.giver(20, 0));
        answers(10, () -> x.giver(19, 0));
        answers(-1, () -> x.giver(9, 0));
    }

    private void style() {
        test("8 style: a chain is 1 long without base", () -> answers(1, () -> lone().style(0, 0)));
        test("8 style: the longest chain", () -> answers(64, () -> Sheets.oneChain(0).style(63, 0)));
        test("8 style: it is not counted as on its own chain", () -> answers(0, () -> lone().style(0, 1)));
        test("8 style: on how many other styles' chains it is, not only whose base it is", this::builtOn);
        test("8 style: its base is -1 if it has none", () -> answers(-1, () -> lone().style(0, 2)));
        test("8 style: base 0 and base 63", this::endsAsBases);
        test("8 style: its kind", this::kinds);
        test("8 style: no own values, and all", this::ownCounted);
        test("8 style: another what", this::anotherWhat);
    }

    private static StyleSheet lone() {
        StyleSheet x = new StyleSheet();
        x.make(1, -1);
        return x;
    }

    private void builtOn() {
        StyleSheet x = Sheets.oneChain(0);
        answers(63, () -> x.style(0, 1));
        answers(1, () -> x.style(62, 1));
        answers(0, () -> x.style(63, 1));
        x.rebase(32, -1);
        answers(31, () -> x.style(0, 1));
        answers(31, () -> x.style(32, 1));
        x.rebase(0, 63);
        answers(31, () -> x.style(0, 1));
        answers(63, () -> x.style(32, 1));
    }

    private void endsAsBases() {
        StyleSheet x = Sheets.fullOfStyles();
        x.rebase(62, 0);
        x.rebase(1, 63);
        answers(0, () -> x.style(62, 2));
        answers(63, () -> x.style(1, 2));
    }

    private void kinds() {
        StyleSheet x = Sheets.fullOfStyles();
        answers(0, () -> x.style(0, 3));
        answers(1, () -> x.style(1, 3));
        answers(0, () -> x.style(62, 3));
        answers(1, () -> x.style(63, 3));
        x.drop(63);
        x.make(0, -1);
        answers(0, () -> x.style(63, 3));
    }

    private void ownCounted() {
        StyleSheet x = new StyleSheet();
        x.make(0, -1);
        x.make(0, 0);
        answers(0, () -> x.style(0, 4));
        IntStream.range(0, 24).forEach(property -> x.own(0, property, 0));
        answers(24, () -> x.style(0, 4));
        answers(0, () -> x.style(1, 4));
    }

    private void anotherWhat() {
        StyleSheet x = lone();
        for (int what : new int[] {LOW, -2, -1, 5, 6, 256, 65536, HIGH}) {
            refuses(ARGUMENT, () -> x.style(0, what));
        }
    }

    private void usual() {
        test("9 usual: it becomes this, again and again", this::usualAgain);
        test("9 usual: one property's alone", this::usualAlone);
        test("9 usual: -1 is no value here", this::usualNotNone);
        test("9 usual: styles stay as they are", this::stylesStay);
        test("9 usual: sets stay as they are", this::setsStay);
    }

    private void usualAgain() {
        StyleSheet x = new StyleSheet();
        for (int value : new int[] {65535, 0, 1, 1, 65535}) {
            passes(() -> x.usual(23, value));
            answers(value, () -> x.resolve(0, -1, -1, 23));
        }
    }

    private void usualAlone() {
        StyleSheet x = new StyleSheet();
        x.usual(8, 255);
        IntStream.range(0, 24).forEach(p -> answers(p == 8 ? 255 : 0, () -> x.resolve(0, -1, -1, p)));
    }

    private void usualNotNone() {
        StyleSheet x = new StyleSheet();
        x.usual(0, 1);
        IntStream.range(0, 24).forEach(property -> refuses(ARGUMENT, () -> x.usual(property, -1)));
        answers(1, () -> x.resolve(0, -1, -1, 0));
    }

    private void stylesStay() {
        StyleSheet x = new StyleSheet();
        x.make(0, -1);
        x.own(0, 8, 5);
        x.usual(8, 5);
        x.usual(9, 6);
        answers(5, () -> x.value(0, 8));
        answers(-1, () -> x.value(0, 9));
        answers(1, () -> x.style(0, 4));
        x.usual(8, 0);
        answers(5, () -> x.value(0, 8));
    }

    private void setsStay() {
        StyleSheet x = new StyleSheet();
        x.with(0, 8, 5);
        x.with(1, 9, 1);
        x.usual(8, 5);
        x.usual(9, 6);
        answers(5, () -> x.get(1, 8));
        answers(-1, () -> x.get(0, 8));
        answers(-1, () -> x.get(1, 9));
        answers(3, () -> x.count(3));
        answers(3, () -> x.count(1));
    }
}
