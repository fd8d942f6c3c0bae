import java.util.ArrayList;
import java.util.List;
import java.util.Random;
import java.util.function.Supplier;
import java.util.function.ToIntFunction;

/** Promises 17 to 19 and the term "history" at their bounds: above each method stands what it holds. */
public final class HistoryBoundsTest {
    public static void main(String[] args) {
        fiveStatesAreKept();
        undoTellsTheStatesThatAreLeft();
        undoIsNoneIfTheHistoryIsEmpty();
        historyGoesRound();
        undoRestoresEachPartOfTheState();
        anotherInTheSamePlaceIsUndone();
        placesAreUsedAnew();
        undoLeavesTextAndSnapshot();
        onlyActsAreRecorded();
        refusedCallsAreNotRecorded();
        keepTakesTheStateInPlaceOfTheOneBefore();
        keepIsNoAct();
        restoreIsNoneWithoutASnapshot();
        restoreIsAnAct();
        snapshotStaysAsItIs();
        restoreLeavesTextAndHistory();
        Check.end("HistoryBoundsTest");
    }

    private static StormHire bought(int times) {
        StormHire x = new StormHire();
        for (int i = 0; i < times; i++) {
            x.buy(1);
        }
        return x;
    }

    /** "A history of at most 5 states is kept; when one more is recorded, the oldest one is dropped". */
    private static void fiveStatesAreKept() {
        for (int acts = 0; acts <= 16; acts++) {
            int kept = Math.min(acts, 5);
            StormHire x = bought(acts);
            Check.due("states after " + acts + " acts", x.count(15), kept);
            for (int left = kept - 1; left >= 0; left--) {
                Check.due("undo() of " + acts, x.undo(), left);
                Check.due("states left", x.count(15), left);
                Check.due("the latest one", x.count(3), acts - kept + left);
            }
            Check.due("undo() of an empty history", x.undo(), -5);
            Check.due("the oldest that was kept", x.count(3), acts - kept);
        }
    }

    /** undo: "Returns the number of states that are left". */
    private static void undoTellsTheStatesThatAreLeft() {
        for (int acts = 1; acts <= 6; acts++) {
            Check.due("undo() after " + acts, bought(acts).undo(), Math.min(acts, 5) - 1);
        }
        StormHire x = bought(5);
        x.undo();
        x.buy(1);
        Check.due("four and one", x.count(15), 5);
        x.buy(1);
        Check.due("and one more", x.count(15), 5);
        Check.due("undo()", x.undo(), 4);
    }

    /** undo: "NONE if the history is empty": at first, after acts that are all undone, and after refused calls. */
    private static void undoIsNoneIfTheHistoryIsEmpty() {
        Twin.unchanged("undo() at first", Scenes::fresh, StormHire::undo, -5);
        for (int acts = 1; acts <= 7; acts++) {
            int done = acts;
            Twin.unchanged("undo() after all of " + acts, () -> emptied(bought(done)), StormHire::undo, -5);
        }
        Twin.unchanged("undo() with text and snapshot", () -> emptied(Scenes.busy()), StormHire::undo, -5);
        Twin.unchanged("undo() after a refused call", Twin.after(Scenes::fresh, x -> x.buy(0)), StormHire::undo, -5);
        Twin.recorded("an act after undo() of nothing", Twin.after(Scenes::fresh, StormHire::undo), x -> x.buy(1), 1);
    }

    private static StormHire emptied(StormHire x) {
        for (int i = 0; i < 5; i++) {
            x.undo();
        }
        return x;
    }

    /** Acts and undo() in turn, so that the history begins at each of its rows; compared with a list. */
    private static void historyGoesRound() {
        Random random = new Random(11);
        for (int run = 0; run < 60; run++) {
            StormHire x = new StormHire();
            List<Integer> past = new ArrayList<>();
            int litres = 0;
            for (int step = 0; step < 120; step++) {
                if (random.nextInt(5) < 3) {
                    past.add(litres);
                    litres += step + 1;
                    if (past.size() > 5) {
                        past.remove(0);
                    }
                    Check.due("buy", x.buy(step + 1), litres);
                } else if (past.isEmpty()) {
                    Check.due("undo() of nothing", x.undo(), -5);
                } else {
                    litres = past.remove(past.size() - 1);
                    Check.due("undo()", x.undo(), past.size());
                }
                Check.due("litres", x.count(3), litres);
                Check.due("states", x.count(15), past.size());
            }
        }
    }

    /** "A state is everything but the text, the history and the snapshot": each number that is told comes back. */
    private static void undoRestoresEachPartOfTheState() {
        List<ToIntFunction<StormHire>> acts = acts();
        for (int i = 0; i < acts.size(); i++) {
            ToIntFunction<StormHire> act = acts.get(i);
            Supplier<StormHire> before = readyFor(i);
            Twin.changes("act " + i, before, act);
            Twin.recorded("act " + i, before, act, act.applyAsInt(before.get()));
        }
        Supplier<StormHire> all = () -> {
            StormHire x = Scenes.busy();
            x.undo();
            x.undo();
            return x;
        };
        int[] due = Twin.past(all, 0);
        StormHire x = all.get();
        x.weather(-30);
        x.pass(24);
        x.undo();
        x.undo();
        Check.holds("sets and sites that were in use", Twin.same(due, Twin.state(x)));
    }

    /** One call of each act that answers no error and not NONE in the state of readyFor(). */
    private static List<ToIntFunction<StormHire>> acts() {
        return List.of(x -> x.buy(3), x -> x.weather(-30), x -> x.setPrice(99), x -> x.addSet(1, 10, 1, 0),
            x -> x.fill(2), x -> x.addSite(1, 1, 1, 2), x -> x.bring(2, 4), x -> x.takeBack(0), StormHire::giveOut,
            StormHire::swap, StormHire::fuelRun, x -> x.pass(24), StormHire::readSites, StormHire::restore);
    }

    private static Supplier<StormHire> readyFor(int act) {
        boolean small = act == 6 || act == 8;
        return small ? Twin.after(Scenes::busy, x -> x.addSite(1, 1, 1, 2)) : Scenes::busy;
    }

    /** A set and a site that stood at the same numbers as others do now come back as they were. */
    private static void anotherInTheSamePlaceIsUndone() {
        StormHire x = new StormHire();
        x.keep();
        x.addSet(11, 22, 3, 4);
        x.addSite(5, 6, 7, 8);
        x.restore();
        x.addSet(99, 88, 7, -6);
        x.addSite(1, 2, 3, 4);
        x.undo();
        x.undo();
        x.undo();
        int[] set = {11, 22, 3, 4};
        int[] site = {5, 6, 7, 8};
        for (int what = 0; what < 4; what++) {
            Check.due("set(0, " + what + ")", x.set(0, what), set[what]);
            Check.due("site(0, " + what + ")", x.site(0, what), site[what]);
        }
    }

    /** What is added where others were before is as new, whether they were undone or left by restore(). */
    private static void placesAreUsedAnew() {
        StormHire x = new StormHire();
        x.keep();
        Scenes.setWithFuel(x, 50, 10, 10, 100);
        x.addSite(5, 50, 0, 99);
        x.bring(0, 0);
        x.pass(3);
        Check.due("it runs", x.set(0, 6), 1);
        Check.due("it is warm", x.set(0, 7), 1);
        x.restore();
        Check.due("no set", x.set(0, 0), -1);
        Check.due("addSet", x.addSet(20, 30, 4, -1), 0);
        Check.due("addSite", x.addSite(3, 20, 0, 9), 0);
        newInPlace(x);
        x.undo();
        Check.typeAll(x, "3*20@0-9");
        Check.due("readSites()", x.readSites(), 1);
        newInPlace(x);
        Check.due("it is in the yard", x.bring(0, 0), 0);
    }

    private static void newInPlace(StormHire x) {
        int[] set = {20, 30, 4, -1, 0, -5, 0, 0, 0, 0};
        int[] site = {3, 20, 0, 9, -5, 0, 0, 0, -5, 1};
        for (int what = 0; what < 10; what++) {
            Check.due("new: set(0, " + what + ")", x.set(0, what), set[what]);
            Check.due("new: site(0, " + what + ")", x.site(0, what), site[what]);
        }
    }

    private static void undoLeavesTextAndSnapshot() {
        StormHire x = Scenes.busy();
        int hour = x.keep();
        x.pass(5);
        x.clearText();
        Check.typeAll(x, "1*1@0-9");
        x.undo();
        x.undo();
        Check.due("the text is not undone", x.count(16), 7);
        Check.due("nor the snapshot", x.restore(), hour);
        Check.due("the snapshot's temperature", x.count(1), 104);
        Check.due("the text is read", x.readSites(), 1);
        StormHire late = new StormHire();
        late.buy(1);
        late.keep();
        late.undo();
        Check.due("a snapshot of a state that is undone", late.restore(), 0);
        Check.due("stays", late.count(3), 1);
    }

    /** "Each call of a method that is described as an act ... records the state": the others do not. */
    private static void onlyActsAreRecorded() {
        List<ToIntFunction<StormHire>> others = List.of(x -> x.type('1'), StormHire::clearText, StormHire::keep,
            x -> x.set(0, 4), x -> x.site(0, 4), x -> x.why(0), x -> x.needy(0), x -> x.thirsty(0),
            x -> x.forecast(24, 0), x -> x.count(0));
        for (int i = 0; i < others.size(); i++) {
            for (Supplier<StormHire> made : List.<Supplier<StormHire>>of(Scenes::busy, () -> bought(3), Scenes::full)) {
                StormHire x = made.get();
                int states = x.count(15);
                others.get(i).applyAsInt(x);
                Check.due("states after call " + i + ", which is no act", x.count(15), states);
                x.undo();
                x.clearText();
                int[] due = Twin.past(Twin.after(made, StormHire::clearText), 1);
                Check.holds("undo() after call " + i, Twin.same(due, Twin.state(x)));
            }
        }
    }

    /** "and returns no error and not NONE": one refused call of each act, with an empty and a full history. */
    private static void refusedCallsAreNotRecorded() {
        List<ToIntFunction<StormHire>> calls = List.of(x -> x.buy(0), x -> x.weather(21), x -> x.setPrice(0),
            x -> x.addSet(1, 10, 11, 0), x -> x.fill(99), x -> x.addSite(1, 1, 5, 5), x -> x.bring(99, 0),
            x -> x.takeBack(99), StormHire::giveOut, StormHire::swap, StormHire::fuelRun, x -> x.pass(25),
            StormHire::readSites, StormHire::restore);
        int[] due = {-2, -2, -2, -2, -1, -2, -1, -1, -5, -5, -5, -2, -100, -5};
        for (int i = 0; i < due.length; i++) {
            Twin.unchanged("refused call " + i, Scenes::fresh, calls.get(i), due[i]);
            if (i != 8) {
                Twin.unchanged("refused call " + i + ", of a full object", Scenes::full, calls.get(i), due[i]);
            }
            Twin.unchanged("refused call " + i + ", of a short history", HistoryBoundsTest::threeStates,
                calls.get(i), due[i]);
        }
        Twin.unchanged("weather as it is", Scenes::busy, x -> x.weather(4), -5);
        Twin.unchanged("price as it is", Scenes::busy, x -> x.setPrice(7), -5);
    }

    /** Three states in the history; a set at a closed site, nothing in the text, no snapshot. */
    private static StormHire threeStates() {
        StormHire x = new StormHire();
        x.addSet(9, 10, 9, 9);
        x.addSite(9, 9, 5, 9);
        x.bring(0, 0);
        return x;
    }

    /** keep: "Takes a snapshot of the state, in place of the one that was. Returns the hour." */
    private static void keepTakesTheStateInPlaceOfTheOneBefore() {
        for (int hour : new int[] {0, 1, 24, 998, 999}) {
            StormHire x = Scenes.atHour(hour);
            Check.due("keep() at hour " + hour, x.keep(), hour);
            x.undo();
            Check.due("restore() of it", x.restore(), hour);
            Check.due("the hour", x.count(0), hour);
        }
        StormHire x = Scenes.busy();
        int[] due = Twin.state(x);
        Check.due("keep()", x.keep(), 1);
        x.restore();
        Check.holds("restore() at once changes nothing", Twin.same(due, Twin.state(x)));
        StormHire y = Scenes.busy();
        y.keep();
        y.weather(-9);
        y.pass(7);
        y.takeBack(0);
        y.addSet(9, 10, 9, 9);
        y.restore();
        Check.holds("the latest snapshot, not the one before", Twin.same(due, Twin.state(y)));
        StormHire small = Scenes.full();
        small.keep();
        emptied(small);
        small.keep();
        small.addSite(1, 1, 0, 9);
        small.restore();
        Check.due("a smaller one in place of a greater", small.count(9), 7);
    }

    /** keep is not described as an act. */
    private static void keepIsNoAct() {
        StormHire x = new StormHire();
        x.keep();
        Check.due("nothing is recorded", x.count(15), 0);
        Check.due("nothing to undo", x.undo(), -5);
        Check.due("the snapshot is there", x.restore(), 0);
        StormHire y = Scenes.busy();
        int[] due = Twin.past(Scenes::busy, 1);
        y.keep();
        Check.due("five states", y.count(15), 5);
        y.undo();
        Check.holds("undo() goes behind the act before", Twin.same(due, Twin.state(y)));
    }

    /** restore: "NONE if there is no snapshot": "There is one snapshot, empty at first." */
    private static void restoreIsNoneWithoutASnapshot() {
        Twin.unchanged("restore() at first", Scenes::fresh, StormHire::restore, -5);
        Twin.unchanged("restore() of a full object", Scenes::full, StormHire::restore, -5);
        Twin.unchanged("restore() after undo()", () -> emptied(bought(4)), StormHire::restore, -5);
        Twin.recorded("a snapshot of a new object is one", Twin.after(Scenes::fresh, StormHire::keep),
            StormHire::restore, 0);
    }

    /** restore: "This is an act", even if nothing changes by it. */
    private static void restoreIsAnAct() {
        Twin.recorded("restore()", Scenes::busy, StormHire::restore, 0);
        Twin.recorded("restore() of a short history", Twin.after(() -> bought(2), StormHire::keep),
            StormHire::restore, 0);
        Twin.recorded("restore() of an empty history", Twin.after(() -> emptied(Scenes.busy()), StormHire::keep),
            StormHire::restore, 0);
        Twin.recorded("restore() again", Twin.after(Scenes::busy, StormHire::restore), StormHire::restore, 0);
        StormHire x = Scenes.atHour(30);
        x.keep();
        x.pass(10);
        Check.due("the hour then", x.restore(), 30);
        Check.due("undo()", x.undo(), 3);
        Check.due("the hour before", x.count(0), 40);
    }

    /** restore: "the snapshot, which stays": what is done after keep() or restore() does not reach it. */
    private static void snapshotStaysAsItIs() {
        StormHire x = Scenes.busy();
        x.keep();
        int[] due = Twin.state(Scenes.busy());
        for (int round = 0; round < 6; round++) {
            x.pass(3 + round);
            x.fuelRun();
            x.takeBack(1);
            x.giveOut();
            x.addSite(9, 99, 0, 999);
            x.addSet(99, 500, 50, 10);
            Check.due("restore(), round " + round, x.restore(), 1);
            Check.due("sites", x.count(9), 4);
        }
        Check.holds("as it was", Twin.same(due, Twin.state(x)));
        StormHire y = Scenes.busy();
        y.restore();
        y.buy(1);
        y.undo();
        y.undo();
        Check.due("undo() does not touch it", y.restore(), 0);
        Check.due("litres of it", y.count(3), 810);
        Check.due("no set is at a site there", y.count(8), 3);
    }

    /** "A state is everything but the text, the history and the snapshot." */
    private static void restoreLeavesTextAndHistory() {
        StormHire x = bought(1);
        x.keep();
        x.buy(1);
        x.buy(1);
        Check.typeAll(x, "1*1@0-9");
        x.restore();
        Check.due("three states and one", x.count(15), 4);
        Check.due("the text", x.count(16), 7);
        int[] litres = {3, 2, 1, 0};
        for (int i = 0; i < 4; i++) {
            Check.due("undo()", x.undo(), 3 - i);
            Check.due("litres", x.count(3), litres[i]);
        }
        Check.due("the text is read", x.readSites(), 1);
        StormHire empty = new StormHire();
        Check.typeAll(empty, "1*1@0-9");
        empty.keep();
        empty.clearText();
        empty.restore();
        Check.due("the text of that time does not come back", empty.count(16), 0);
    }
}
