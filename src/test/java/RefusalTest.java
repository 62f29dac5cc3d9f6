import java.util.function.Supplier;

/**
 * Calls that are refused: which exception is thrown where several apply, and that what throws (or
 * answers that nothing is changed) leaves all as it was.
 */
final class RefusalTest extends Due {
    private static final Supplier<StyleSheet> MIXED = Sheets::mixed;
    private static final Supplier<StyleSheet> FULL = Sheets::full;

    public static void main(String[] args) {
        RefusalTest t = new RefusalTest();
        t.test("make: IllegalArgumentException goes before IllegalStateException", t::orderOfMake);
        t.test("rebase: NoSuchElementException goes before IllegalArgumentException", t::orderOfRebase);
        t.test("own: NoSuchElementException goes before IllegalArgumentException", t::orderOfOwn);
        t.test("value, giver, style: NoSuchElementException goes before IllegalArgumentException", t::orderOfTellers);
        t.test("with: NoSuchElementException, IllegalArgumentException, IllegalStateException", t::orderOfWith);
        t.test("over: NoSuchElementException goes before IllegalStateException", t::orderOfOver);
        t.test("lean: NoSuchElementException, IllegalArgumentException, IllegalStateException", t::orderOfLean);
        t.test("get: NoSuchElementException goes before IllegalArgumentException", t::orderOfGet);
        t.test("resolve: NoSuchElementException goes before IllegalArgumentException", t::orderOfResolve);
        t.test("differ: NoSuchElementException goes before IllegalArgumentException", t::orderOfDiffer);
        t.test("make: what throws changes nothing", t::makeLeavesAll);
        t.test("drop: what throws changes nothing", t::dropLeavesAll);
        t.test("rebase: what throws changes nothing", t::rebaseLeavesAll);
        t.test("rebase: false, and nothing is changed", t::falseRebaseLeavesAll);
        t.test("own: what throws changes nothing", t::ownLeavesAll);
        t.test("value, giver, style: what throws changes nothing", t::tellersLeaveAll);
        t.test("usual: what throws changes nothing", t::usualLeavesAll);
        t.test("with: what throws changes nothing", t::withLeavesAll);
        t.test("over: what throws changes nothing", t::overLeavesAll);
        t.test("lean: what throws changes nothing", t::leanLeavesAll);
        t.test("get, resolve, differ: what throws changes nothing", t::tellersOfSetsLeaveAll);
        t.test("mark: what throws changes nothing", t::markLeavesAll);
        t.test("calls that only tell change nothing", t::tellingLeavesAll);
        t.end();
    }

    private void orderOfMake() {
        StyleSheet x = Sheets.full();
        refuses(ARGUMENT, () -> x.make(2, -1));
        refuses(ARGUMENT, () -> x.make(-1, -1));
        refuses(ARGUMENT, () -> x.make(0, 1));
        refuses(ARGUMENT, () -> x.make(1, 0));
        refuses(ARGUMENT, () -> x.make(0, 64));
        refuses(ARGUMENT, () -> x.make(0, -2));
        refuses(STATE, () -> x.make(0, -1));
        refuses(STATE, () -> x.make(0, 0));
        refuses(STATE, () -> x.make(1, 63));
    }

    private void orderOfRebase() {
        StyleSheet x = Sheets.mixed();
        refuses(NO_ELEMENT, () -> x.rebase(1, 1));
        refuses(NO_ELEMENT, () -> x.rebase(1, 64));
        refuses(NO_ELEMENT, () -> x.rebase(64, 64));
        refuses(NO_ELEMENT, () -> x.rebase(-1, -2));
        refuses(ARGUMENT, () -> x.rebase(0, 1));
    }

    private void orderOfOwn() {
        StyleSheet x = Sheets.mixed();
        refuses(NO_ELEMENT, () -> x.own(1, 24, 0));
        refuses(NO_ELEMENT, () -> x.own(1, 0, 2));
        refuses(NO_ELEMENT, () -> x.own(64, -1, -2));
        refuses(NO_ELEMENT, () -> x.own(-1, 24, 65536));
        refuses(ARGUMENT, () -> x.own(0, 24, 65536));
    }

    private void orderOfTellers() {
        StyleSheet x = Sheets.mixed();
        refuses(NO_ELEMENT, () -> x.value(1, 24));
        refuses(NO_ELEMENT, () -> x.value(-1, -1));
        refuses(NO_ELEMENT, () -> x.giver(1, 24));
        refuses(NO_ELEMENT, () -> x.giver(64, -1));
        refuses(NO_ELEMENT, () -> x.style(1, 5));
        refuses(NO_ELEMENT, () -> x.style(-1, -1));
    }

    private void orderOfWith() {
        StyleSheet x = Sheets.full();
        refuses(NO_ELEMENT, () -> x.with(256, 24, 0));
        refuses(NO_ELEMENT, () -> x.with(-1, 0, 2));
        refuses(NO_ELEMENT, () -> x.with(256, 17, 1));
        refuses(ARGUMENT, () -> x.with(0, 24, 1));
        refuses(ARGUMENT, () -> x.with(0, -1, 1));
        refuses(ARGUMENT, () -> x.with(0, 17, 65536));
        refuses(ARGUMENT, () -> x.with(0, 17, -2));
        refuses(STATE, () -> x.with(0, 17, 65535));
    }

    private void orderOfOver() {
        StyleSheet x = Sheets.full();
        refuses(NO_ELEMENT, () -> x.over(2, 256));
        refuses(NO_ELEMENT, () -> x.over(256, 2));
        refuses(NO_ELEMENT, () -> x.over(-1, 256));
        refuses(STATE, () -> x.over(2, 255));
    }

    private void orderOfLean() {
        StyleSheet x = Sheets.full();
        refuses(NO_ELEMENT, () -> x.lean(256, 1, 0));
        refuses(NO_ELEMENT, () -> x.lean(-1, 64, -1));
        refuses(NO_ELEMENT, () -> x.lean(256, -1, 64));
        refuses(ARGUMENT, () -> x.lean(2, 1, -1));
        refuses(ARGUMENT, () -> x.lean(2, -1, 0));
        refuses(ARGUMENT, () -> x.lean(2, 64, -2));
        refuses(STATE, () -> x.lean(2, -1, -1));
        refuses(STATE, () -> x.lean(2, 62, 63));
    }

    private void orderOfGet() {
        StyleSheet x = Sheets.mixed();
        refuses(NO_ELEMENT, () -> x.get(3, 24));
        refuses(NO_ELEMENT, () -> x.get(-1, -1));
        refuses(NO_ELEMENT, () -> x.get(256, 24));
    }

    private void orderOfResolve() {
        StyleSheet x = Sheets.mixed();
        refuses(NO_ELEMENT, () -> x.resolve(3, 1, -1, 0));
        refuses(NO_ELEMENT, () -> x.resolve(3, -1, 1, 0));
        refuses(NO_ELEMENT, () -> x.resolve(3, -1, -1, 24));
        refuses(NO_ELEMENT, () -> x.resolve(256, 2, 0, -1));
    }

    private void orderOfDiffer() {
        StyleSheet x = Sheets.mixed();
        refuses(NO_ELEMENT, () -> x.differ(3, 0, 1, -1));
        refuses(NO_ELEMENT, () -> x.differ(0, 3, 1, -1));
        refuses(NO_ELEMENT, () -> x.differ(0, 3, -1, 1));
        refuses(NO_ELEMENT, () -> x.differ(256, -1, 2, 0));
    }

    private void makeLeavesAll() {
        refusesWhole(ARGUMENT, MIXED, x -> x.make(2, -1));
        refusesWhole(ARGUMENT, MIXED, x -> x.make(0, 2));
        refusesWhole(ARGUMENT, MIXED, x -> x.make(1, 1));
        refusesWhole(STATE, FULL, x -> x.make(1, 63));
    }

    private void dropLeavesAll() {
        refusesWhole(NO_ELEMENT, MIXED, x -> x.drop(1));
        refusesWhole(NO_ELEMENT, MIXED, x -> x.drop(-1));
        refusesWhole(NO_ELEMENT, MIXED, x -> x.drop(64));
    }

    private void rebaseLeavesAll() {
        refusesWhole(NO_ELEMENT, MIXED, x -> x.rebase(1, 0));
        refusesWhole(ARGUMENT, MIXED, x -> x.rebase(4, 2));
        refusesWhole(ARGUMENT, MIXED, x -> x.rebase(4, 1));
    }

    private void falseRebaseLeavesAll() {
        is(false, () -> Sheets.mixed().rebase(4, 4));
        changesNothing(MIXED, x -> x.rebase(4, 4));
        is(false, () -> Sheets.mixed().rebase(0, 4));
        changesNothing(MIXED, x -> x.rebase(0, 4));
        is(false, () -> Sheets.mixed().rebase(3, 5));
        changesNothing(MIXED, x -> x.rebase(3, 5));
    }

    private void ownLeavesAll() {
        refusesWhole(NO_ELEMENT, MIXED, x -> x.own(1, 8, 7));
        refusesWhole(ARGUMENT, MIXED, x -> x.own(0, 24, 0));
        refusesWhole(ARGUMENT, MIXED, x -> x.own(0, 8, 256));
        refusesWhole(ARGUMENT, MIXED, x -> x.own(0, 8, -2));
    }

    private void tellersLeaveAll() {
        refusesWhole(NO_ELEMENT, MIXED, x -> x.value(1, 8));
        refusesWhole(ARGUMENT, MIXED, x -> x.value(0, 24));
        refusesWhole(NO_ELEMENT, MIXED, x -> x.giver(1, 8));
        refusesWhole(ARGUMENT, MIXED, x -> x.giver(0, -1));
        refusesWhole(NO_ELEMENT, MIXED, x -> x.style(1, 0));
        refusesWhole(ARGUMENT, MIXED, x -> x.style(0, 5));
    }

    private void usualLeavesAll() {
        refusesWhole(ARGUMENT, MIXED, x -> x.usual(9, 256));
        refusesWhole(ARGUMENT, MIXED, x -> x.usual(9, -1));
        refusesWhole(ARGUMENT, MIXED, x -> x.usual(24, 0));
    }

    private void withLeavesAll() {
        refusesWhole(NO_ELEMENT, MIXED, x -> x.with(3, 0, 0));
        refusesWhole(ARGUMENT, MIXED, x -> x.with(1, 24, 0));
        refusesWhole(ARGUMENT, MIXED, x -> x.with(1, 8, 256));
        refusesWhole(STATE, FULL, x -> x.with(2, 17, 1));
    }

    private void overLeavesAll() {
        refusesWhole(NO_ELEMENT, MIXED, x -> x.over(3, 1));
        refusesWhole(NO_ELEMENT, MIXED, x -> x.over(1, 3));
        refusesWhole(STATE, FULL, x -> x.over(2, 255));
    }

    private void leanLeavesAll() {
        refusesWhole(NO_ELEMENT, MIXED, x -> x.lean(3, -1, -1));
        refusesWhole(ARGUMENT, MIXED, x -> x.lean(2, 2, -1));
        refusesWhole(ARGUMENT, MIXED, x -> x.lean(2, -1, 0));
        refusesWhole(STATE, FULL, x -> x.lean(2, -1, -1));
    }

    private void tellersOfSetsLeaveAll() {
        refusesWhole(NO_ELEMENT, MIXED, x -> x.get(3, 0));
        refusesWhole(ARGUMENT, MIXED, x -> x.get(1, 24));
        refusesWhole(NO_ELEMENT, MIXED, x -> x.resolve(3, -1, -1, 0));
        refusesWhole(ARGUMENT, MIXED, x -> x.resolve(1, 1, -1, 0));
        refusesWhole(NO_ELEMENT, MIXED, x -> x.differ(1, 3, -1, -1));
        refusesWhole(ARGUMENT, MIXED, x -> x.differ(1, 2, -1, 1));
    }

    private void markLeavesAll() {
        refusesWhole(NO_ELEMENT, MIXED, x -> x.mark(3));
        refusesWhole(NO_ELEMENT, MIXED, x -> x.mark(-1));
        refusesWhole(NO_ELEMENT, MIXED, x -> x.mark(256));
    }

    private void tellingLeavesAll() {
        changesNothing(MIXED, x -> x.value(4, 8));
        changesNothing(MIXED, x -> x.giver(4, 8));
        changesNothing(MIXED, x -> x.style(4, 1));
        changesNothing(MIXED, x -> x.get(2, 16));
        changesNothing(MIXED, x -> x.size(3));
        changesNothing(MIXED, x -> x.resolve(2, 4, 5, 8));
        changesNothing(MIXED, x -> x.differ(1, 2, 4, 5));
        changesNothing(MIXED, x -> x.count(5));
        changesNothing(MIXED, x -> x.mark(2));
        changesNothing(MIXED, x -> x.with(1, 16, 3));
        changesNothing(MIXED, x -> x.over(4, 0));
        changesNothing(MIXED, x -> x.lean(4, -1, -1));
    }
}
