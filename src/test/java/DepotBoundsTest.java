import java.util.function.ToIntFunction;

/** Promises 1 to 6 at their bounds: above each method stands what it holds, mostly in the document's own words. */
public final class DepotBoundsTest {
    private static final int MIN = Integer.MIN_VALUE;
    private static final int MAX = Integer.MAX_VALUE;

    public static void main(String[] args) {
        newIsEmpty();
        newIsItsOwn();
        buyTakesOneToFiveThousand();
        buyIsFullAboveFiftyThousand();
        buyIsBadBeforeFull();
        weatherTakesMinusThirtyToTwenty();
        weatherTellsTheChangeWithoutSign();
        weatherIsNoneIfSoAlready();
        priceTakesOneToNinetyNine();
        priceIsNoneIfSoAlready();
        setTakesItsRanges();
        setRefusesBeyondItsRanges();
        setsAreTenAtMost();
        addSetIsBadBeforeFull();
        fillKnowsItsSets();
        fillFillsAsFarAsThereIsFuel();
        fillIsNotPossibleAtASite();
        fillIsNoneIfNothingCanBeFilledIn();
        eachIsAnAct();
        Check.end("DepotBoundsTest");
    }

    /** "Creates a depot without sets, sites and fuel." Each number at first, and each call that finds nothing. */
    private static void newIsEmpty() {
        int[] counts = {0, 105, 10, 0, 0, 0, 0, 0, 0, 0, 0, 0, 0, 0, 0, 0, 0};
        for (int what = 0; what < counts.length; what++) {
            Check.due("new: count(" + what + ")", new StormHire().count(what), counts[what]);
        }
        Twin.unchanged("new: fill(0)", Scenes::fresh, x -> x.fill(0), -1);
        Twin.unchanged("new: bring(0, 0)", Scenes::fresh, x -> x.bring(0, 0), -1);
        Twin.unchanged("new: takeBack(0)", Scenes::fresh, x -> x.takeBack(0), -1);
        Twin.unchanged("new: giveOut()", Scenes::fresh, StormHire::giveOut, -5);
        Twin.unchanged("new: swap()", Scenes::fresh, StormHire::swap, -5);
        Twin.unchanged("new: fuelRun()", Scenes::fresh, StormHire::fuelRun, -5);
        Twin.unchanged("new: clearText()", Scenes::fresh, StormHire::clearText, 0);
        Twin.unchanged("new: readSites()", Scenes::fresh, StormHire::readSites, -100);
        Twin.unchanged("new: undo()", Scenes::fresh, StormHire::undo, -5);
        Twin.unchanged("new: restore()", Scenes::fresh, StormHire::restore, -5);
        Twin.unchanged("new: set(0, 0)", Scenes::fresh, x -> x.set(0, 0), -1);
        Twin.unchanged("new: site(0, 0)", Scenes::fresh, x -> x.site(0, 0), -1);
        Twin.unchanged("new: why(0)", Scenes::fresh, x -> x.why(0), -1);
        Twin.unchanged("new: needy(0)", Scenes::fresh, x -> x.needy(0), -5);
        Twin.unchanged("new: thirsty(0)", Scenes::fresh, x -> x.thirsty(0), -5);
        for (int what = 0; what <= 3; what++) {
            int asked = what;
            Twin.unchanged("new: forecast(24, " + what + ")", Scenes::fresh, x -> x.forecast(24, asked),
                what == 3 ? -5 : 0);
        }
        Check.due("new: keep()", new StormHire().keep(), 0);
        Check.due("new: pass(24)", new StormHire().pass(24), 0);
    }

    /** What is done with one object does not show in another, made before or after it. */
    private static void newIsItsOwn() {
        StormHire before = new StormHire();
        StormHire busy = Scenes.busy();
        Check.holds("an object made before a busy one", Twin.same(Twin.state(before), Twin.state(new StormHire())));
        Check.due("its history", before.undo(), -5);
        Check.due("its snapshot", before.restore(), -5);
        Check.due("its text", before.readSites(), -100);
        Check.due("the busy one's history", busy.count(15), 5);
    }

    private static void refusedEverywhere(String call, ToIntFunction<StormHire> asked, int due) {
        Twin.unchanged(call + " of a new object", Scenes::fresh, asked, due);
        Twin.unchanged(call + " of a busy one", Scenes::busy, asked, due);
        Twin.unchanged(call + " of a full one", Scenes::full, asked, due);
    }

    /** buy: "litres: 1 to 5000". */
    private static void buyTakesOneToFiveThousand() {
        for (int litres : new int[] {MIN, MIN + 1, -5000, -1, 0, 5001, 5002, 50000, MAX - 1, MAX}) {
            refusedEverywhere("buy(" + litres + ")", x -> x.buy(litres), -2);
        }
        for (int litres : new int[] {1, 2, 4999, 5000}) {
            Twin.recorded("buy(" + litres + ")", Scenes::fresh, x -> x.buy(litres), litres);
            Twin.recorded("buy(" + litres + "), busy", Scenes::busy, x -> x.buy(litres), 810 + litres);
        }
    }

    /** buy: "FULL if they would be more than 50000": the litres in the depot, not those that were bought. */
    private static void buyIsFullAboveFiftyThousand() {
        Twin.recorded("buy(1) to 50000", () -> Scenes.withLitres(49999), x -> x.buy(1), 50000);
        Twin.unchanged("buy(2) to 50001", () -> Scenes.withLitres(49999), x -> x.buy(2), -3);
        Twin.recorded("buy(5000) to 50000", () -> Scenes.withLitres(45000), x -> x.buy(5000), 50000);
        Twin.unchanged("buy(5000) to 50001", () -> Scenes.withLitres(45001), x -> x.buy(5000), -3);
        Twin.recorded("buy(4999) to 50000", () -> Scenes.withLitres(45001), x -> x.buy(4999), 50000);
        Twin.unchanged("buy(1) at 50000", () -> Scenes.withLitres(50000), x -> x.buy(1), -3);
        Twin.unchanged("buy(5000) at 50000", () -> Scenes.withLitres(50000), x -> x.buy(5000), -3);
        StormHire x = Scenes.withLitres(50000);
        x.addSet(1, 10, 1, 0);
        x.fill(0);
        Check.due("what went to a tank makes room", x.buy(11), -3);
        Check.due("for as many litres", x.buy(10), 50000);
        Check.due("more than 50000 can have been bought", x.count(6), 50010);
        Check.due("undo()", x.undo(), 4);
        Check.due("undone, there is room again", x.buy(10), 50000);
    }

    /** buy: the order "BAD_VALUE; FULL". */
    private static void buyIsBadBeforeFull() {
        Twin.unchanged("buy(0) at 50000", () -> Scenes.withLitres(50000), x -> x.buy(0), -2);
        Twin.unchanged("buy(-1) at 50000", () -> Scenes.withLitres(50000), x -> x.buy(-1), -2);
        Twin.unchanged("buy(5001) at 50000", () -> Scenes.withLitres(50000), x -> x.buy(5001), -2);
        Twin.unchanged("buy(MAX) at 50000", () -> Scenes.withLitres(50000), x -> x.buy(MAX), -2);
    }

    /** weather: "degrees: -30 to 20". */
    private static void weatherTakesMinusThirtyToTwenty() {
        for (int degrees : new int[] {MIN, MIN + 5, -100, -32, -31, 21, 22, 100, MAX}) {
            refusedEverywhere("weather(" + degrees + ")", x -> x.weather(degrees), -2);
        }
        for (int degrees : new int[] {-30, -29, -1, 0, 1, 19, 20}) {
            Twin.recorded("weather(" + degrees + ")", Scenes::fresh, x -> x.weather(degrees), Math.abs(degrees - 5));
            StormHire x = new StormHire();
            x.weather(degrees);
            Check.due("the temperature after weather(" + degrees + ")", x.count(1), degrees + 100);
        }
    }

    /** weather: "by how many degrees it changes, without a sign". */
    private static void weatherTellsTheChangeWithoutSign() {
        int[][] rows = {{4, 1}, {5, 1}, {6, 1}, {-6, 12}, {6, 12}, {0, 6}, {-30, 30}, {20, 50}, {-30, 50}, {0, 30},
            {20, 20}, {0, 20}, {1, 1}, {-1, 2}};
        StormHire x = new StormHire();
        for (int[] row : rows) {
            Check.due("weather(" + row[0] + ")", x.weather(row[0]), row[1]);
        }
    }

    /** weather: "NONE if it is so already". */
    private static void weatherIsNoneIfSoAlready() {
        noneOfNewAndFull("weather(5)", x -> x.weather(5));
        Twin.unchanged("weather(4) at 4", Scenes::busy, x -> x.weather(4), -5);
        for (int degrees : new int[] {-30, -1, 0, 20}) {
            Twin.unchanged("weather(" + degrees + ") again", Twin.after(Scenes::busy, x -> x.weather(degrees)),
                x -> x.weather(degrees), -5);
        }
        Twin.recorded("weather(5) after undo()", Twin.after(Scenes::busy, x -> x.weather(20) + x.undo()),
            x -> x.weather(20), 16);
    }

    private static void noneOfNewAndFull(String call, ToIntFunction<StormHire> asked) {
        Twin.unchanged(call + " of a new object", Scenes::fresh, asked, -5);
        Twin.unchanged(call + " of a full one", Scenes::full, asked, -5);
    }

    /** setPrice: "price: 1 to 99". */
    private static void priceTakesOneToNinetyNine() {
        for (int price : new int[] {MIN, -99, -1, 0, 100, 101, MAX}) {
            refusedEverywhere("setPrice(" + price + ")", x -> x.setPrice(price), -2);
        }
        for (int price : new int[] {1, 2, 9, 11, 98, 99}) {
            Twin.recorded("setPrice(" + price + ")", Scenes::fresh, x -> x.setPrice(price), 10);
            Twin.recorded("setPrice(" + price + "), busy", Scenes::busy, x -> x.setPrice(price), 7);
            StormHire x = new StormHire();
            x.setPrice(price);
            Check.due("the price after setPrice(" + price + ")", x.count(2), price);
        }
        StormHire x = new StormHire();
        Check.due("setPrice(1)", x.setPrice(1), 10);
        Check.due("the previous price: setPrice(99)", x.setPrice(99), 1);
        Check.due("the previous price: setPrice(1)", x.setPrice(1), 99);
    }

    /** setPrice: "NONE if it is so already". */
    private static void priceIsNoneIfSoAlready() {
        noneOfNewAndFull("setPrice(10)", x -> x.setPrice(10));
        Twin.unchanged("setPrice(7) at 7", Scenes::busy, x -> x.setPrice(7), -5);
        for (int price : new int[] {1, 99}) {
            Twin.unchanged("setPrice(" + price + ") again", Twin.after(Scenes::busy, x -> x.setPrice(price)),
                x -> x.setPrice(price), -5);
        }
    }

    /** addSet: the last value of each range is taken; "burn: 1 to 50, at most the tank". */
    private static void setTakesItsRanges() {
        int[][] good = {{1, 100, 10, 0}, {99, 100, 10, 0}, {50, 10, 5, 0}, {50, 500, 10, 0}, {50, 100, 1, 0},
            {50, 100, 50, 0}, {50, 10, 10, 0}, {50, 49, 49, 0}, {50, 50, 50, 0}, {50, 51, 50, 0}, {50, 100, 10, -30},
            {50, 100, 10, 10}, {1, 10, 1, -30}, {99, 500, 50, 10}};
        for (int[] row : good) {
            String call = call("addSet", row);
            Twin.recorded(call, Scenes::fresh, x -> x.addSet(row[0], row[1], row[2], row[3]), 0);
            Twin.recorded(call + ", busy", Scenes::busy, x -> x.addSet(row[0], row[1], row[2], row[3]), 3);
            StormHire x = Scenes.busy();
            x.addSet(row[0], row[1], row[2], row[3]);
            int[] due = {row[0], row[1], row[2], row[3], 0, -5, 0, 0, 0, 0};
            for (int what = 0; what < due.length; what++) {
                Check.due(call + ": set(3, " + what + ")", x.set(3, what), due[what]);
            }
        }
    }

    private static String call(String name, int[] row) {
        return name + java.util.Arrays.toString(row);
    }

    /** addSet: the first value beyond each range is refused, whichever it is. */
    private static void setRefusesBeyondItsRanges() {
        int[][] bad = {{0, 100, 10, 0}, {100, 100, 10, 0}, {50, 9, 5, 0}, {50, 501, 10, 0}, {50, 100, 0, 0},
            {50, 100, 51, 0}, {50, 10, 11, 0}, {50, 49, 50, 0}, {50, 100, 10, -31}, {50, 100, 10, 11},
            {-1, 100, 10, 0}, {50, 0, 0, 0}, {50, -1, -1, 0}, {50, 100, -1, 0}, {50, 500, 500, 0},
            {MIN, 100, 10, 0}, {MAX, 100, 10, 0}, {50, MIN, 10, 0}, {50, MAX, 10, 0}, {50, 100, MIN, 0},
            {50, 100, MAX, 0}, {50, 100, 10, MIN}, {50, 100, 10, MAX}, {50, MIN, MIN, 0}, {50, MAX, MAX, 0}};
        for (int[] row : bad) {
            refusedEverywhere(call("addSet", row), x -> x.addSet(row[0], row[1], row[2], row[3]), -2);
        }
    }

    /** "There are at most 10 sets (generators), numbered from 0." addSet: "FULL if there are 10". */
    private static void setsAreTenAtMost() {
        StormHire x = new StormHire();
        for (int i = 0; i < 10; i++) {
            Check.due("addSet, number " + i, x.addSet(99, 500, 50, 10), i);
            Check.due("sets", x.count(7), i + 1);
        }
        Check.due("addSet, the eleventh", x.addSet(99, 500, 50, 10), -3);
        Twin.unchanged("addSet at ten", Scenes::full, y -> y.addSet(1, 10, 1, -30), -3);
        Twin.unchanged("addSet at ten at sites", Scenes::crowded, y -> y.addSet(1, 10, 1, -30), -3);
        Twin.recorded("addSet when the tenth is undone", Twin.after(DepotBoundsTest::tenSets, StormHire::undo),
            y -> y.addSet(1, 10, 1, -30), 9);
        Twin.unchanged("addSet at ten, just added", DepotBoundsTest::tenSets, y -> y.addSet(1, 10, 1, -30), -3);
    }

    private static StormHire tenSets() {
        StormHire x = new StormHire();
        for (int i = 0; i < 10; i++) {
            x.addSet(20 + i, 50 + i, 1 + i, -i);
        }
        return x;
    }

    /** addSet: the order "BAD_VALUE; FULL". */
    private static void addSetIsBadBeforeFull() {
        int[][] bad = {{0, 100, 10, 0}, {100, 100, 10, 0}, {50, 9, 5, 0}, {50, 501, 10, 0}, {50, 100, 0, 0},
            {50, 100, 51, 0}, {50, 10, 11, 0}, {50, 100, 10, -31}, {50, 100, 10, 11}};
        for (int[] row : bad) {
            Twin.unchanged(call("addSet", row) + " at ten", Scenes::full,
                x -> x.addSet(row[0], row[1], row[2], row[3]), -2);
        }
    }

    /** fill: "UNKNOWN": "There is no such set or site." */
    private static void fillKnowsItsSets() {
        for (int set : new int[] {MIN, -5, -1, 3, 10, MAX}) {
            Twin.unchanged("fill(" + set + ") of three", Scenes::busy, x -> x.fill(set), -1);
        }
        for (int set : new int[] {MIN, -1, 10, 11, MAX}) {
            Twin.unchanged("fill(" + set + ") of ten", Scenes::full, x -> x.fill(set), -1);
        }
        Twin.recorded("fill(0) of ten", Scenes::full, x -> x.fill(0), 20);
        Twin.recorded("fill(9) of ten", Scenes::full, x -> x.fill(9), 29);
        Twin.recorded("fill(2) of three", Scenes::busy, x -> x.fill(2), 50);
        Twin.unchanged("fill(0) without sets or fuel", Scenes::fresh, x -> x.fill(0), -1);
        Twin.unchanged("fill(0) when the set is undone", Twin.after(Scenes::fresh, x -> x.addSet(9, 9, 9, 9)
            + x.addSet(9, 10, 9, 9) + x.undo()), x -> x.fill(0), -1);
    }

    /** fill: "Fills the tank ... as far as this has fuel", on both sides of the room in the tank. */
    private static void fillFillsAsFarAsThereIsFuel() {
        int[][] rows = {{1, 1}, {2, 2}, {39, 39}, {40, 40}, {41, 40}, {42, 40}, {5000, 40}};
        for (int[] row : rows) {
            Twin.recorded("fill(0) from " + row[0], () -> depotAndTank(row[0], 40), x -> x.fill(0), row[1]);
            StormHire x = depotAndTank(row[0], 40);
            x.fill(0);
            Check.due("fuel, filled from " + row[0], x.set(0, 4), row[1]);
            Check.due("depot, filled from " + row[0], x.count(3), row[0] - row[1]);
            Check.due("in tanks, filled from " + row[0], x.count(4), row[1]);
            Check.due("bought stays", x.count(6), row[0]);
            Check.due("nothing is burnt", x.count(5), 0);
        }
        StormHire x = depotAndTank(30, 40);
        x.fill(0);
        x.buy(11);
        Check.due("the last ten litres", x.fill(0), 10);
        Check.due("beside those that were in it", x.set(0, 4), 40);
        Check.due("the depot keeps one", x.count(3), 1);
        StormHire big = depotAndTank(600, 500);
        Check.due("no truck drives: all 500", big.fill(0), 500);
    }

    private static StormHire depotAndTank(int litres, int tank) {
        StormHire x = new StormHire();
        x.addSet(50, tank, 10, 0);
        x.addSet(50, tank, 10, 0);
        if (litres > 0) {
            x.buy(litres);
        }
        return x;
    }

    /** fill: "NOT_POSSIBLE if it is at a site", open or not; and this before NONE. */
    private static void fillIsNotPossibleAtASite() {
        for (int set : new int[] {0, 1}) {
            Twin.unchanged("fill(" + set + ") at a site", Scenes::busy, x -> x.fill(set), -4);
        }
        Twin.unchanged("fill(0) at site 0", Scenes::crowded, x -> x.fill(0), -4);
        Twin.unchanged("fill(9) at site 9", Scenes::crowded, x -> x.fill(9), -4);
        Twin.unchanged("at a site that is not open", () -> atClosedSite(100), x -> x.fill(0), -4);
        Twin.unchanged("at a site, and the depot is empty", () -> atClosedSite(0), x -> x.fill(0), -4);
        Twin.unchanged("at a site, and the tank is full", Twin.after(() -> atClosedSite(100), StormHire::fuelRun),
            x -> x.fill(0), -4);
        StormHire back = atClosedSite(100);
        back.takeBack(0);
        Check.due("taken back", back.fill(0), 40);
        StormHire over = new StormHire();
        over.addSet(9, 40, 1, 0);
        over.addSite(1, 9, 0, 2);
        over.bring(0, 0);
        over.buy(100);
        over.pass(1);
        Check.due("one hour before its end", over.fill(0), -4);
        over.pass(1);
        Check.due("at its end", over.fill(0), 40);
    }

    private static StormHire atClosedSite(int litres) {
        StormHire x = depotAndTank(litres, 40);
        x.addSite(1, 50, 5, 9);
        x.bring(0, 0);
        return x;
    }

    /** fill: "NONE if nothing can be filled in": the tank is full, or the depot is empty, or both. */
    private static void fillIsNoneIfNothingCanBeFilledIn() {
        Twin.unchanged("the depot is empty", () -> depotAndTank(0, 40), x -> x.fill(0), -5);
        Twin.unchanged("the tank is full", Twin.after(() -> depotAndTank(41, 40), x -> x.fill(0)),
            x -> x.fill(0), -5);
        Twin.unchanged("both", Twin.after(() -> depotAndTank(40, 40), x -> x.fill(0)), x -> x.fill(0), -5);
        Twin.unchanged("the depot is empty, the tank half full", Twin.after(() -> depotAndTank(20, 40),
            x -> x.fill(0)), x -> x.fill(0), -5);
        Twin.recorded("another has room", Twin.after(() -> depotAndTank(41, 40), x -> x.fill(0)),
            x -> x.fill(1), 1);
    }

    /** "This is an act", with an empty history and with a full one. */
    private static void eachIsAnAct() {
        Twin.recorded("buy", Scenes::busy, x -> x.buy(3), 813);
        Twin.recorded("weather", Scenes::busy, x -> x.weather(5), 1);
        Twin.recorded("setPrice", Scenes::busy, x -> x.setPrice(10), 7);
        Twin.recorded("addSet", Scenes::busy, x -> x.addSet(9, 10, 9, 9), 3);
        Twin.recorded("fill", Scenes::busy, x -> x.fill(2), 50);
        Twin.recorded("buy, the first", Scenes::fresh, x -> x.buy(3), 3);
        Twin.recorded("weather, the first", Scenes::fresh, x -> x.weather(-5), 10);
        Twin.recorded("setPrice, the first", Scenes::fresh, x -> x.setPrice(11), 10);
        Twin.recorded("addSet, the first", Scenes::fresh, x -> x.addSet(9, 10, 9, 9), 0);
        Twin.changes("fill", Scenes::busy, x -> x.fill(2));
        Twin.changes("addSet", Scenes::busy, x -> x.addSet(9, 10, 9, 9));
    }
}
