import java.util.Arrays;
import java.util.function.Supplier;

/** Promises 7 to 13 at their bounds: above each method stands what it holds, mostly in the document's own words. */
public final class SitesBoundsTest {
    private static final int MIN = Integer.MIN_VALUE;
    private static final int MAX = Integer.MAX_VALUE;

    public static void main(String[] args) {
        siteTakesItsRanges();
        siteRefusesBeyondItsRanges();
        siteUntilIsBehindThePresentHour();
        sitesAreTwelveAtMost();
        addSiteIsBadBeforeFull();
        bringKnowsSetAndSite();
        bringIsUnknownBeforeNotPossible();
        bringNeedsASetInTheYard();
        bringNeedsASiteWithout();
        bringNeedsASiteThatIsNotOver();
        bringNeedsASetThatFits();
        bringTellsTheSetsInTheYard();
        takeBackKnowsItsSites();
        takeBackIsNoneWithoutASet();
        takeBackStopsAndCools();
        giveOutIsNoneIfNoSiteGetsOne();
        giveOutIsOneAct();
        swapIsNoneIfNoneIsFound();
        swapTellsBothSites();
        fuelRunIsNoneIfNothingIsFilledIn();
        fuelRunTakesThreeHundredAtMost();
        fuelRunIsOneAct();
        passTakesOneToTwentyFour();
        passGoesToHour999();
        passIsBadBeforeNotPossible();
        passTellsTheLitHoursOfThisCall();
        eachIsAnAct();
        Check.end("SitesBoundsTest");
    }

    private static String call(String name, int[] row) {
        return name + Arrays.toString(row);
    }

    /** addSite: the last value of each range is taken. */
    private static void siteTakesItsRanges() {
        int[][] good = {{1, 50, 3, 8}, {9, 50, 3, 8}, {5, 1, 3, 8}, {5, 99, 3, 8}, {5, 50, 0, 8}, {5, 50, 998, 999},
            {5, 50, 7, 8}, {5, 50, 0, 2}, {5, 50, 0, 999}, {5, 50, 3, 999}, {5, 50, 1, 2}, {5, 50, 2, 3},
            {1, 1, 0, 999}, {9, 99, 998, 999}};
        for (int[] row : good) {
            String call = call("addSite", row);
            Twin.recorded(call, Scenes::fresh, x -> x.addSite(row[0], row[1], row[2], row[3]), 0);
            Twin.recorded(call + ", busy", Scenes::busy, x -> x.addSite(row[0], row[1], row[2], row[3]), 4);
            StormHire x = Scenes.busy();
            x.addSite(row[0], row[1], row[2], row[3]);
            int[] due = {row[0], row[1], row[2], row[3], -5, 0, 0, 0, -5, row[2] <= 1 ? 1 : 0};
            for (int what = 0; what < due.length; what++) {
                Check.due(call + ": site(4, " + what + ")", x.site(4, what), due[what]);
            }
        }
    }

    /** addSite: the first value beyond each range is refused, whichever it is; "until ... greater than from". */
    private static void siteRefusesBeyondItsRanges() {
        int[][] bad = {{0, 50, 3, 8}, {10, 50, 3, 8}, {5, 0, 3, 8}, {5, 100, 3, 8}, {5, 50, -1, 8}, {5, 50, 999, 999},
            {5, 50, 999, 1000}, {5, 50, 998, 1000}, {5, 50, 998, 998}, {5, 50, 0, 1000}, {5, 50, 8, 8}, {5, 50, 9, 8},
            {5, 50, 0, 0}, {5, 50, 8, 0}, {5, 50, 3, -1}, {5, 50, -2, -1}, {-1, 50, 3, 8}, {5, -1, 3, 8},
            {MIN, 50, 3, 8}, {MAX, 50, 3, 8}, {5, MIN, 3, 8}, {5, MAX, 3, 8}, {5, 50, MIN, 8}, {5, 50, MAX, 8},
            {5, 50, 3, MIN}, {5, 50, 3, MAX}, {5, 50, MIN, MAX}, {5, 50, MAX, MIN}, {5, 50, MAX, MAX}};
        for (int[] row : bad) {
            String call = call("addSite", row);
            Twin.unchanged(call, Scenes::fresh, x -> x.addSite(row[0], row[1], row[2], row[3]), -2);
            Twin.unchanged(call + ", busy", Scenes::busy, x -> x.addSite(row[0], row[1], row[2], row[3]), -2);
        }
    }

    /** addSite: until is "greater than ... the present hour"; the hour from which may be past. */
    private static void siteUntilIsBehindThePresentHour() {
        for (int hour : new int[] {1, 2, 24, 500, 997, 998}) {
            String at = " at hour " + hour;
            Twin.unchanged("until before it" + at, () -> Scenes.atHour(hour), x -> x.addSite(5, 50, 0, hour - 1), -2);
            Twin.unchanged("until then" + at, () -> Scenes.atHour(hour), x -> x.addSite(5, 50, 0, hour), -2);
            Twin.unchanged("just before" + at, () -> Scenes.atHour(hour), x -> x.addSite(5, 50, hour - 1, hour), -2);
            Twin.recorded("until after it" + at, () -> Scenes.atHour(hour), x -> x.addSite(5, 50, 0, hour + 1), 0);
            Twin.recorded("just then" + at, () -> Scenes.atHour(hour), x -> x.addSite(5, 50, hour, hour + 1), 0);
        }
        Twin.unchanged("until 1 at hour 0", Scenes::fresh, x -> x.addSite(5, 50, 0, 0), -2);
        Twin.recorded("until 1 at hour 0", Scenes::fresh, x -> x.addSite(5, 50, 0, 1), 0);
        Twin.unchanged("until 999 at hour 999", () -> Scenes.atHour(999), x -> x.addSite(5, 50, 0, 999), -2);
        Twin.unchanged("until 1000 at hour 999", () -> Scenes.atHour(999), x -> x.addSite(5, 50, 998, 1000), -2);
    }

    /** "There are at most 12 sites, numbered from 0." addSite: "FULL if there are 12", over or not. */
    private static void sitesAreTwelveAtMost() {
        StormHire x = new StormHire();
        for (int i = 0; i < 12; i++) {
            Check.due("addSite, number " + i, x.addSite(9, 99, 998, 999), i);
            Check.due("sites", x.count(9), i + 1);
        }
        Check.due("addSite, the thirteenth", x.addSite(9, 99, 998, 999), -3);
        Twin.unchanged("addSite at twelve", Scenes::full, y -> y.addSite(1, 1, 0, 1), -3);
        Twin.recorded("addSite when the twelfth is undone", Twin.after(Scenes::full, StormHire::undo),
            y -> y.addSite(1, 1, 0, 1), 11);
        Twin.unchanged("addSite at twelve that are over", Twin.after(Scenes::full, y -> y.pass(24)),
            y -> y.addSite(1, 1, 0, 999), -3);
    }

    /** addSite: the order "BAD_VALUE; FULL". */
    private static void addSiteIsBadBeforeFull() {
        int[][] bad = {{0, 50, 3, 8}, {10, 50, 3, 8}, {5, 0, 3, 8}, {5, 100, 3, 8}, {5, 50, -1, 8}, {5, 50, 999, 999},
            {5, 50, 8, 8}, {5, 50, 0, 1000}, {5, 50, 0, 0}};
        for (int[] row : bad) {
            Twin.unchanged(call("addSite", row) + " at twelve", Scenes::full,
                x -> x.addSite(row[0], row[1], row[2], row[3]), -2);
        }
        Twin.unchanged("until the present hour at twelve", Twin.after(Scenes::full, x -> x.pass(7)),
            x -> x.addSite(1, 1, 0, 7), -2);
    }

    /** bring: "UNKNOWN (set or site)". */
    private static void bringKnowsSetAndSite() {
        int[] noSets = {MIN, -5, -1, 3, 10, MAX};
        for (int set : noSets) {
            Twin.unchanged("bring(" + set + ", 2)", Scenes::busy, x -> x.bring(set, 2), -1);
        }
        int[] noSites = {MIN, -5, -1, 4, 12, MAX};
        for (int site : noSites) {
            Twin.unchanged("bring(2, " + site + ")", Scenes::busy, x -> x.bring(2, site), -1);
        }
        Twin.unchanged("bring(-1, -1)", Scenes::busy, x -> x.bring(-1, -1), -1);
        Twin.unchanged("bring(3, 4)", Scenes::busy, x -> x.bring(3, 4), -1);
        Twin.unchanged("bring(10, 0)", Scenes::full, x -> x.bring(10, 0), -1);
        Twin.unchanged("bring(0, 12)", Scenes::full, x -> x.bring(0, 12), -1);
        Twin.recorded("bring(9, 11)", Scenes::full, x -> x.bring(9, 11), 9);
        Twin.recorded("bring(0, 0)", Scenes::full, x -> x.bring(0, 0), 9);
        Twin.unchanged("bring(0, 0) without sites", Twin.after(Scenes::fresh, x -> x.addSet(9, 10, 9, 9)),
            x -> x.bring(0, 0), -1);
        Twin.unchanged("bring(0, 0) without sets", Twin.after(Scenes::fresh, x -> x.addSite(9, 9, 0, 9)),
            x -> x.bring(0, 0), -1);
    }

    /** bring: the order "UNKNOWN (set or site); NOT_POSSIBLE". */
    private static void bringIsUnknownBeforeNotPossible() {
        Twin.unchanged("an unknown set to a site that has one", Scenes::busy, x -> x.bring(3, 0), -1);
        Twin.unchanged("a set at a site to an unknown one", Scenes::busy, x -> x.bring(0, 4), -1);
        Twin.unchanged("a set that runs to an unknown site", Scenes::busy, x -> x.bring(1, -1), -1);
        Twin.unchanged("an unknown set to a site that is over", Twin.after(Scenes::busy, x -> x.pass(19)),
            x -> x.bring(-1, 0), -1);
    }

    /** bring: "NOT_POSSIBLE if the set is not in the yard". */
    private static void bringNeedsASetInTheYard() {
        Twin.unchanged("from a site to another without a set", Scenes::busy, x -> x.bring(0, 2), -4);
        Twin.unchanged("one that runs", Scenes::busy, x -> x.bring(1, 2), -4);
        Twin.unchanged("to its own site", Scenes::busy, x -> x.bring(0, 0), -4);
        Twin.recorded("taken back it is in the yard", Twin.after(Scenes::busy, x -> x.takeBack(0)),
            x -> x.bring(0, 2), 1);
    }

    /** bring: "NOT_POSSIBLE if ... the site has one". */
    private static void bringNeedsASiteWithout() {
        Twin.unchanged("the site has one", Scenes::busy, x -> x.bring(2, 0), -4);
        Twin.recorded("the site has none any more", Twin.after(Scenes::busy, x -> x.takeBack(0)),
            x -> x.bring(2, 0), 1);
    }

    /** bring: "is over (the hour is not less than its until)"; a site that is not open yet is no hindrance. */
    private static void bringNeedsASiteThatIsNotOver() {
        for (int hour = 0; hour <= 7; hour++) {
            int passed = hour;
            if (hour < 5) {
                Twin.recorded("until 5 at hour " + hour, () -> oneOfEach(passed, 3, 5, 50), x -> x.bring(0, 0), 0);
            } else {
                Twin.unchanged("until 5 at hour " + hour, () -> oneOfEach(passed, 3, 5, 50), x -> x.bring(0, 0), -4);
            }
        }
        Twin.recorded("until 999 at hour 998", () -> oneOfEach(998, 0, 999, 50), x -> x.bring(0, 0), 0);
        Twin.unchanged("until 999 at hour 999", () -> oneOfEach(999, 0, 999, 50), x -> x.bring(0, 0), -4);
    }

    /** A set of power 50 in the yard and a site, at the given hour. */
    private static StormHire oneOfEach(int hour, int from, int until, int load) {
        StormHire x = new StormHire();
        x.addSet(50, 100, 10, 0);
        x.addSite(5, load, from, until);
        Scenes.passTo(x, hour);
        return x;
    }

    /** "A set fits a site if its power is at least the load of the site." bring: "or the set does not fit". */
    private static void bringNeedsASetThatFits() {
        for (int load : new int[] {1, 49, 50}) {
            Twin.recorded("50 to a load of " + load, () -> oneOfEach(0, 0, 5, load), x -> x.bring(0, 0), 0);
        }
        for (int load : new int[] {51, 52, 99}) {
            Twin.unchanged("50 to a load of " + load, () -> oneOfEach(0, 0, 5, load), x -> x.bring(0, 0), -4);
        }
        int[][] rows = {{1, 1, 0}, {1, 2, -4}, {98, 99, -4}, {99, 99, 0}, {99, 1, 0}};
        for (int[] row : rows) {
            StormHire x = new StormHire();
            x.addSet(row[0], 10, 1, 0);
            x.addSite(1, row[1], 0, 1);
            Check.due(row[0] + " to a load of " + row[1], x.bring(0, 0), row[2]);
        }
    }

    /** bring: "the number of sets in the yard then", from the most to none. */
    private static void bringTellsTheSetsInTheYard() {
        StormHire x = Scenes.full();
        for (int i = 0; i < 10; i++) {
            Check.due("bring(" + i + ", " + i + ")", x.bring(i, i), 9 - i);
            Check.due("in the yard", x.count(8), 9 - i);
        }
        x.takeBack(4);
        x.takeBack(6);
        Check.due("bring(6, 4)", x.bring(6, 4), 1);
    }

    /** takeBack: "UNKNOWN": "There is no such set or site." */
    private static void takeBackKnowsItsSites() {
        for (int site : new int[] {MIN, -5, -1, 4, 12, MAX}) {
            Twin.unchanged("takeBack(" + site + ")", Scenes::busy, x -> x.takeBack(site), -1);
        }
        Twin.unchanged("takeBack(12)", Scenes::crowded, x -> x.takeBack(12), -1);
        Twin.unchanged("takeBack(-1)", Scenes::crowded, x -> x.takeBack(-1), -1);
        Twin.recorded("takeBack(0)", Scenes::crowded, x -> x.takeBack(0), 0);
        Twin.recorded("takeBack(9)", Scenes::crowded, x -> x.takeBack(9), 9);
        Twin.recorded("takeBack(11)", Twin.after(Scenes::full, x -> x.bring(9, 11)), x -> x.takeBack(11), 9);
        Twin.unchanged("takeBack(0) without sites", Twin.after(Scenes::fresh, x -> x.addSet(9, 10, 9, 9)),
            x -> x.takeBack(0), -1);
    }

    /** takeBack: "NONE if it has none": never had one, was taken back, or is over. */
    private static void takeBackIsNoneWithoutASet() {
        Twin.unchanged("an open site", Scenes::busy, x -> x.takeBack(2), -5);
        Twin.unchanged("one that is not open yet", Scenes::busy, x -> x.takeBack(3), -5);
        Twin.unchanged("again", Twin.after(Scenes::busy, x -> x.takeBack(0)), x -> x.takeBack(0), -5);
        Twin.unchanged("one that is over", Twin.after(Scenes::busy, x -> x.pass(19)), x -> x.takeBack(0), -5);
        Twin.recorded("one hour before", Twin.after(Scenes::busy, x -> x.pass(18)), x -> x.takeBack(0), 0);
        Twin.recorded("before it opens", Twin.after(() -> oneOfEach(0, 5, 9, 50), x -> x.bring(0, 0)),
            x -> x.takeBack(0), 0);
    }

    /** takeBack: "it runs no more, and its warmth is 0"; all else of the set and the site stays. */
    private static void takeBackStopsAndCools() {
        StormHire x = Scenes.busy();
        Check.due("warm", x.set(0, 7), 1);
        Check.due("runs", x.set(1, 6), 1);
        x.takeBack(0);
        x.takeBack(1);
        int[][] due = {{80, 100, 20, 10, 100, -5, 0, 0, 0, 5}, {40, 90, 20, -10, 70, -5, 0, 0, 1, 3}};
        for (int set = 0; set < 2; set++) {
            for (int what = 0; what < 10; what++) {
                Check.due("taken back: set(" + set + ", " + what + ")", x.set(set, what), due[set][what]);
            }
        }
        int[] site = {7, 35, 0, 20, -5, 1, 0, 280, -5, 1};
        for (int what = 0; what < 10; what++) {
            Check.due("site(1, " + what + ")", x.site(1, what), site[what]);
        }
    }

    /** giveOut: "NONE if none does". */
    private static void giveOutIsNoneIfNoSiteGetsOne() {
        Twin.unchanged("no site", Twin.after(Scenes::fresh, x -> x.addSet(99, 10, 9, 9)), StormHire::giveOut, -5);
        Twin.unchanged("no set", Twin.after(Scenes::fresh, x -> x.addSite(9, 9, 0, 9)), StormHire::giveOut, -5);
        Twin.unchanged("no set in the yard", Scenes::crowded, StormHire::giveOut, -5);
        Twin.unchanged("none that fits", Scenes::busy, StormHire::giveOut, -5);
        Twin.unchanged("one too weak by 1", () -> oneOfEach(0, 0, 5, 51), StormHire::giveOut, -5);
        Twin.recorded("one just strong enough", () -> oneOfEach(0, 0, 5, 50), StormHire::giveOut, 1);
        Twin.unchanged("each has one", Twin.after(Scenes::busy, x -> x.addSet(35, 10, 1, 0) + x.giveOut()),
            StormHire::giveOut, -5);
        Twin.unchanged("an hour before it opens", () -> oneOfEach(2, 3, 5, 50), StormHire::giveOut, -5);
        Twin.recorded("its first hour", () -> oneOfEach(3, 3, 5, 50), StormHire::giveOut, 1);
        Twin.recorded("its last hour", () -> oneOfEach(4, 3, 5, 50), StormHire::giveOut, 1);
        Twin.unchanged("it is over", () -> oneOfEach(5, 3, 5, 50), StormHire::giveOut, -5);
    }

    /** giveOut: "This is one act", however many sites get one. */
    private static void giveOutIsOneAct() {
        Twin.recorded("giveOut() of ten to twelve", Scenes::full, StormHire::giveOut, 10);
        Twin.recorded("giveOut() of one", () -> oneOfEach(0, 0, 5, 50), StormHire::giveOut, 1);
        StormHire x = Scenes.full();
        x.giveOut();
        Check.due("the yard is empty", x.count(8), 0);
        Check.due("undo()", x.undo(), 4);
        Check.due("all are back", x.count(8), 10);
    }

    /** A big set at a site with a small load, a small one in the yard, and a site that only the big one fits. */
    private static StormHire ripe(int big, int small, int giverLoad, int load, int from, int until) {
        StormHire x = new StormHire();
        x.addSet(big, 100, 10, 0);
        x.addSet(small, 100, 10, 0);
        x.addSite(5, giverLoad, 0, 99);
        x.addSite(1, load, from, until);
        x.bring(0, 0);
        return x;
    }

    /** swap: "NONE if none is found", on both sides of each condition. */
    private static void swapIsNoneIfNoneIsFound() {
        Twin.recorded("a swap", () -> ripe(80, 30, 30, 70, 0, 9), StormHire::swap, 100);
        Twin.unchanged("no second one", Twin.after(() -> ripe(80, 30, 30, 70, 0, 9), StormHire::swap),
            StormHire::swap, -5);
        Twin.recorded("the big set just fits", () -> ripe(70, 30, 30, 70, 0, 9), StormHire::swap, 100);
        Twin.unchanged("the big set does not fit", () -> ripe(69, 30, 30, 70, 0, 9), StormHire::swap, -5);
        Twin.unchanged("the small set does not fit", () -> ripe(80, 29, 30, 70, 0, 9), StormHire::swap, -5);
        Twin.recorded("a set in the yard is too weak by 1", () -> ripe(80, 69, 30, 70, 0, 9), StormHire::swap, 100);
        Twin.unchanged("a set in the yard fits", () -> ripe(80, 70, 30, 70, 0, 9), StormHire::swap, -5);
        Twin.unchanged("it is not open", () -> ripe(80, 30, 30, 70, 1, 9), StormHire::swap, -5);
        Twin.recorded("its first hour", Twin.after(() -> ripe(80, 30, 30, 70, 1, 3), x -> x.pass(1)),
            StormHire::swap, 100);
        Twin.recorded("its last hour", Twin.after(() -> ripe(80, 30, 30, 70, 1, 3), x -> x.pass(2)),
            StormHire::swap, 100);
        Twin.unchanged("it is over", Twin.after(() -> ripe(80, 30, 30, 70, 1, 3), x -> x.pass(3)),
            StormHire::swap, -5);
        Twin.unchanged("it has a set", Twin.after(() -> ripe(80, 30, 30, 25, 0, 9), x -> x.bring(1, 1)),
            StormHire::swap, -5);
        Twin.unchanged("the yard is empty", Scenes::crowded, StormHire::swap, -5);
        Twin.unchanged("no site has a set", Scenes::full, StormHire::swap, -5);
        Twin.unchanged("no set is left in the yard", Twin.after(Scenes::busy, StormHire::swap), StormHire::swap, -5);
        Twin.unchanged("no sets", Twin.after(Scenes::fresh, x -> x.addSite(9, 9, 0, 9)), StormHire::swap, -5);
    }

    /** swap: "100 * the site that had no set + the site that had its set before", up to the greatest numbers. */
    private static void swapTellsBothSites() {
        int[][] rows = {{0, 1, 1}, {1, 0, 100}, {0, 11, 11}, {11, 0, 1100}, {10, 11, 1011}, {11, 10, 1110},
            {5, 10, 510}};
        for (int[] row : rows) {
            Twin.recorded(call("swap", row), () -> swapBetween(row[0], row[1]), StormHire::swap, row[2]);
            StormHire x = swapBetween(row[0], row[1]);
            x.swap();
            Check.due("the big set", x.site(row[0], 4), 0);
            Check.due("the small set", x.site(row[1], 4), 1);
        }
    }

    private static StormHire swapBetween(int hungry, int giver) {
        StormHire x = new StormHire();
        x.addSet(80, 100, 10, 0);
        x.addSet(30, 100, 10, 0);
        for (int i = 0; i < 12; i++) {
            boolean plain = i != hungry && i != giver;
            x.addSite(5, i == hungry ? 70 : 20, plain ? 50 : 0, 99);
        }
        x.bring(0, giver);
        return x;
    }

    /** fuelRun: "NONE if these are 0". */
    private static void fuelRunIsNoneIfNothingIsFilledIn() {
        Twin.unchanged("no sites", Twin.after(() -> Scenes.withLitres(100), x -> x.addSet(9, 10, 9, 9)),
            StormHire::fuelRun, -5);
        Twin.unchanged("no site has a set", Scenes::full, StormHire::fuelRun, -5);
        Twin.unchanged("all tanks are full", Scenes::crowded, StormHire::fuelRun, -5);
        Twin.unchanged("the depot is empty", () -> hungry(0, 100), StormHire::fuelRun, -5);
        Twin.unchanged("full and empty", Twin.after(() -> hungry(100, 100), StormHire::fuelRun),
            StormHire::fuelRun, -5);
        Twin.recorded("one litre in the depot", () -> hungry(1, 100), StormHire::fuelRun, 1);
        StormHire x = new StormHire();
        x.addSet(50, 100, 1, 0);
        x.addSite(5, 50, 0, 9);
        x.buy(102);
        x.fill(0);
        x.bring(0, 0);
        Check.due("no room", x.fuelRun(), -5);
        x.pass(1);
        Check.due("room for one litre", x.fuelRun(), 1);
        Check.due("no room again", x.fuelRun(), -5);
        Check.due("the depot", x.count(3), 1);
    }

    /** A set of the given tank at a site, and so many litres in the depot. */
    private static StormHire hungry(int litres, int tank) {
        StormHire x = Scenes.withLitres(litres);
        x.addSet(50, tank, 10, 0);
        x.addSite(5, 50, 0, 99);
        x.bring(0, 0);
        return x;
    }

    /** "a truck takes at most 300 litres from the depot (all if there are fewer)"; the rest "comes back". */
    private static void fuelRunTakesThreeHundredAtMost() {
        int[][] rows = {{299, 500, 299}, {300, 500, 300}, {301, 500, 300}, {302, 500, 300}, {5000, 500, 300},
            {5000, 299, 299}, {5000, 300, 300}, {5000, 301, 300}, {300, 300, 300}, {299, 300, 299}, {300, 299, 299},
            {50000, 500, 300}, {50000, 10, 10}};
        for (int[] row : rows) {
            String call = "fuelRun() from " + row[0] + " to a tank of " + row[1];
            Twin.recorded(call, () -> hungry(row[0], row[1]), StormHire::fuelRun, row[2]);
            StormHire x = hungry(row[0], row[1]);
            x.fuelRun();
            Check.due(call + ": depot", x.count(3), row[0] - row[2]);
            Check.due(call + ": tank", x.set(0, 4), row[2]);
            Check.due(call + ": bought", x.count(6), row[0]);
        }
    }

    /** fuelRun: "Does a fuel run. This is an act": one, however many tanks are filled. */
    private static void fuelRunIsOneAct() {
        Supplier<StormHire> ten = Twin.after(Scenes::crowded, x -> x.pass(3));
        Twin.recorded("fuelRun() to ten", ten, StormHire::fuelRun, 60);
        StormHire x = ten.get();
        x.undo();
        x.undo();
        x.pass(1);
        Check.due("states before it", x.count(15), 4);
        Check.due("fuelRun() to nine", x.fuelRun(), 18);
        Check.due("states after it", x.count(15), 5);
        x.undo();
        Check.due("undone at one go", x.count(4), 227);
    }

    /** pass: "hours: 1 to 24". */
    private static void passTakesOneToTwentyFour() {
        for (int hours : new int[] {MIN, -24, -1, 0, 25, 26, 999, 1000, MAX}) {
            Twin.unchanged("pass(" + hours + ")", Scenes::fresh, x -> x.pass(hours), -2);
            Twin.unchanged("pass(" + hours + "), busy", Scenes::busy, x -> x.pass(hours), -2);
        }
        for (int hours : new int[] {1, 2, 23, 24}) {
            Twin.recorded("pass(" + hours + ")", Scenes::fresh, x -> x.pass(hours), 0);
            Check.due("the hour after pass(" + hours + ")", Scenes.atHour(hours).count(0), hours);
        }
        Twin.recorded("pass(1), busy", Scenes::busy, x -> x.pass(1), 1);
        Twin.recorded("pass(24), busy", Scenes::busy, x -> x.pass(24), 8);
    }

    /** pass: "NOT_POSSIBLE if the hour would become more than 999". */
    private static void passGoesToHour999() {
        int[][] rows = {{975, 24}, {976, 23}, {987, 12}, {997, 2}, {998, 1}};
        for (int[] row : rows) {
            String at = "pass at " + row[0];
            Twin.recorded(at, () -> Scenes.atHour(row[0]), x -> x.pass(row[1]), 0);
            if (row[1] < 24) {
                Twin.unchanged(at + ", one more", () -> Scenes.atHour(row[0]), x -> x.pass(row[1] + 1), -4);
            }
            StormHire x = Scenes.atHour(row[0]);
            x.pass(row[1]);
            Check.due(at + ": hour", x.count(0), 999);
        }
        Twin.unchanged("pass(24) at 976", () -> Scenes.atHour(976), x -> x.pass(24), -4);
        Twin.unchanged("pass(1) at 999", () -> Scenes.atHour(999), x -> x.pass(1), -4);
        Twin.unchanged("pass(24) at 999", () -> Scenes.atHour(999), x -> x.pass(24), -4);
        Supplier<StormHire> late = Twin.after(() -> Scenes.atHour(990), SitesBoundsTest::light);
        Twin.unchanged("a part of the hours does not pass", late, x -> x.pass(10), -4);
        Twin.recorded("all of them do", late, x -> x.pass(9), 9);
    }

    private static int light(StormHire x) {
        Check.fullSet(x, 50, 100, 1, 0);
        x.addSite(5, 50, 0, 999);
        return x.bring(0, 0);
    }

    /** pass: the order "BAD_VALUE; NOT_POSSIBLE". */
    private static void passIsBadBeforeNotPossible() {
        for (int hours : new int[] {MIN, -1, 0, 25, 1000, MAX}) {
            Twin.unchanged("pass(" + hours + ") at 999", () -> Scenes.atHour(999), x -> x.pass(hours), -2);
            Twin.unchanged("pass(" + hours + ") at 980", () -> Scenes.atHour(980), x -> x.pass(hours), -2);
        }
    }

    /** pass: "in how many hours of sites these were lit": of this call alone, all sites together, 0 if in none. */
    private static void passTellsTheLitHoursOfThisCall() {
        StormHire x = new StormHire();
        for (int i = 0; i < 10; i++) {
            Check.fullSet(x, 50, 500, 10, 0);
        }
        for (int i = 0; i < 12; i++) {
            x.addSite(5, 50, 0, 999);
        }
        Check.due("all dark: pass(24)", x.pass(24), 0);
        x.giveOut();
        Check.due("ten lit: pass(1)", x.pass(1), 10);
        Check.due("ten lit: pass(24)", x.pass(24), 240);
        Check.due("lit in all", x.count(11), 250);
        Check.due("dark in all", x.count(12), 12 * 24 + 2 * 25);
        Check.due("undo() takes all 24 hours back", x.undo(), 4);
        Check.due("hour", x.count(0), 25);
        Check.due("again: pass(2)", x.pass(2), 20);
    }

    /** "This is an act", with an empty history and with a full one. */
    private static void eachIsAnAct() {
        Twin.recorded("addSite", Scenes::busy, x -> x.addSite(1, 1, 1, 2), 4);
        Twin.recorded("bring", Twin.after(Scenes::busy, x -> x.addSite(1, 1, 1, 2)), x -> x.bring(2, 4), 0);
        Twin.recorded("takeBack", Scenes::busy, x -> x.takeBack(1), 1);
        Twin.recorded("giveOut", Twin.after(Scenes::busy, x -> x.addSite(1, 1, 1, 2)), StormHire::giveOut, 1);
        Twin.recorded("swap", Twin.after(Scenes::busy, x -> x.addSite(9, 79, 1, 2)), StormHire::swap, 400);
        Twin.recorded("fuelRun", Scenes::busy, StormHire::fuelRun, 20);
        Twin.recorded("pass", Scenes::busy, x -> x.pass(3), 5);
        Twin.recorded("addSite, the first", Scenes::fresh, x -> x.addSite(1, 1, 1, 2), 0);
        Twin.recorded("pass, the first", Scenes::fresh, x -> x.pass(24), 0);
        Twin.changes("bring", Twin.after(Scenes::busy, x -> x.addSite(1, 1, 1, 2)), x -> x.bring(2, 4));
        Twin.changes("takeBack", Scenes::busy, x -> x.takeBack(1));
        Twin.changes("fuelRun", Scenes::busy, StormHire::fuelRun);
        Twin.changes("pass", Scenes::busy, x -> x.pass(1));
    }
}
