import java.util.Arrays;

/** Promises 20 to 26 at their bounds: above each method stands what it holds, mostly in the document's own words. */
public final class TellBoundsTest {
    private static final int MIN = Integer.MIN_VALUE;
    private static final int MAX = Integer.MAX_VALUE;

    public static void main(String[] args) {
        setKnowsItsSets();
        setTellsTenNumbers();
        setIsUnknownBeforeBad();
        setTellsLimitsThatLookLikeErrors();
        setTellsHoursLeftRoundedDown();
        setCountsHoursAtAllSites();
        siteKnowsItsSites();
        siteTellsTenNumbers();
        siteIsUnknownBeforeBad();
        siteTellsTheLatestCause();
        whyKnowsItsSites();
        whyIsNoneIfNotOpen();
        whyTellsWhatComes();
        needyTakesPlaces();
        thirstyTakesPlaces();
        thirstyGoesByHoursThenNeed();
        forecastTakesItsRanges();
        forecastGoesToHour999();
        forecastIsBadBeforeNotPossible();
        forecastTellsTheLowestDarkestSite();
        forecastTellsWhatComes();
        countTellsSeventeenNumbers();
        countTellsTheExtremes();
        countFollowsWhatItCounts();
        tellingChangesNothing();
        Check.end("TellBoundsTest");
    }

    /** set: "UNKNOWN". */
    private static void setKnowsItsSets() {
        for (int set : new int[] {MIN, -5, -1, 3, 4, 10, MAX}) {
            for (int what = 0; what <= 9; what++) {
                Check.due("set(" + set + ", " + what + ") of three", Scenes.busy().set(set, what), -1);
            }
            Twin.unchanged("set(" + set + ", 0) of three", Scenes::busy, x -> x.set(set, 0), -1);
        }
        StormHire x = Scenes.full();
        for (int set = 0; set < 10; set++) {
            Check.due("set(" + set + ", 0) of ten", x.set(set, 0), 10 + set);
        }
        Check.due("set(10, 0) of ten", x.set(10, 0), -1);
        Check.due("set(-1, 0) of ten", x.set(-1, 0), -1);
        x = new StormHire();
        x.addSet(9, 10, 9, 9);
        Check.due("set(0, 0) of one", x.set(0, 0), 9);
        x.undo();
        Check.due("set(0, 0), undone", x.set(0, 0), -1);
    }

    /** set: "what: 0 ... 9"; else "BAD_VALUE". */
    private static void setTellsTenNumbers() {
        int[][] due = {{80, 100, 20, 10, 100, 0, 0, 1, 0, 5}, {40, 90, 20, -10, 70, 1, 1, 0, 1, 3},
            {30, 50, 10, 0, 0, -5, 0, 0, 0, 0}};
        for (int set = 0; set < 3; set++) {
            for (int what = 0; what <= 9; what++) {
                Check.due("set(" + set + ", " + what + ")", Scenes.busy().set(set, what), due[set][what]);
            }
            int asked = set;
            for (int what : new int[] {MIN, -5, -1, 10, 11, MAX}) {
                Twin.unchanged("set(" + set + ", " + what + ")", Scenes::busy, x -> x.set(asked, what), -2);
            }
        }
    }

    /** set: the order "UNKNOWN; BAD_VALUE". */
    private static void setIsUnknownBeforeBad() {
        int[][] rows = {{-1, -1}, {-1, 10}, {3, -1}, {3, 10}, {MAX, MIN}, {MIN, MAX}};
        for (int[] row : rows) {
            Check.due("set" + Arrays.toString(row), Scenes.busy().set(row[0], row[1]), -1);
        }
        Check.due("set(0, 10) without sets", new StormHire().set(0, 10), -1);
    }

    /** set: "(a limit can be any of -30 to 10)", those of the errors among them. */
    private static void setTellsLimitsThatLookLikeErrors() {
        for (int limit = -30; limit <= 10; limit++) {
            StormHire x = new StormHire();
            x.addSet(9, 10, 9, limit);
            Check.due("a limit of " + limit, x.set(0, 3), limit);
        }
    }

    /** "the fuel of a set divided by its burn, rounded down". */
    private static void setTellsHoursLeftRoundedDown() {
        int[][] rows = {{0, 1, 0}, {0, 50, 0}, {1, 1, 1}, {500, 1, 500}, {49, 50, 0}, {50, 50, 1}, {51, 50, 1},
            {99, 50, 1}, {100, 50, 2}, {19, 10, 1}, {20, 10, 2}};
        for (int[] row : rows) {
            StormHire x = new StormHire();
            Scenes.setWithFuel(x, 50, row[1], 0, row[0]);
            Check.due("hours left of " + Arrays.toString(row), x.set(0, 9), row[2]);
        }
    }

    /** "8 for the hours that it has run (in which it has lit a site, at all sites together)". */
    private static void setCountsHoursAtAllSites() {
        StormHire x = new StormHire();
        Scenes.setWithFuel(x, 50, 10, 10, 40);
        x.addSite(5, 50, 0, 3);
        x.addSite(5, 50, 0, 99);
        x.bring(0, 0);
        x.pass(3);
        Check.due("a failed start is no such hour", x.set(0, 8), 2);
        Check.due("and stays when it is in the yard", x.set(0, 5), -5);
        x.pass(1);
        x.bring(0, 1);
        x.pass(24);
        Check.due("two more at another site, then it is dry", x.set(0, 8), 4);
        Check.due("lit in all", x.count(11), 4);
    }

    /** site: "UNKNOWN". */
    private static void siteKnowsItsSites() {
        for (int site : new int[] {MIN, -5, -1, 4, 5, 12, MAX}) {
            for (int what = 0; what <= 9; what++) {
                Check.due("site(" + site + ", " + what + ") of four", Scenes.busy().site(site, what), -1);
            }
            Twin.unchanged("site(" + site + ", 0) of four", Scenes::busy, x -> x.site(site, 0), -1);
        }
        StormHire x = Scenes.full();
        for (int site = 0; site < 12; site++) {
            Check.due("site(" + site + ", 1) of twelve", x.site(site, 1), 8 + site);
        }
        Check.due("site(12, 1) of twelve", x.site(12, 1), -1);
        Check.due("site(-1, 1) of twelve", x.site(-1, 1), -1);
        x.undo();
        Check.due("site(11, 1), undone", x.site(11, 1), -1);
        Check.due("site(10, 1), the last", x.site(10, 1), 18);
    }

    /** site: "what: 0 ... 9"; else "BAD_VALUE". */
    private static void siteTellsTenNumbers() {
        int[][] due = {{2, 25, 0, 20, 0, 0, 1, 0, 3, 1}, {7, 35, 0, 20, 1, 1, 0, 280, -5, 1},
            {1, 35, 0, 99, -5, 0, 1, 0, 1, 1}, {9, 70, 30, 40, -5, 0, 0, 0, -5, 0}};
        for (int site = 0; site < 4; site++) {
            for (int what = 0; what <= 9; what++) {
                Check.due("site(" + site + ", " + what + ")", Scenes.busy().site(site, what), due[site][what]);
            }
            int asked = site;
            for (int what : new int[] {MIN, -5, -1, 10, 11, MAX}) {
                Twin.unchanged("site(" + site + ", " + what + ")", Scenes::busy, x -> x.site(asked, what), -2);
            }
        }
    }

    /** site: the order "UNKNOWN; BAD_VALUE". */
    private static void siteIsUnknownBeforeBad() {
        int[][] rows = {{-1, -1}, {-1, 10}, {4, -1}, {4, 10}, {MAX, MIN}, {MIN, MAX}};
        for (int[] row : rows) {
            Check.due("site" + Arrays.toString(row), Scenes.busy().site(row[0], row[1]), -1);
        }
        Check.due("site(0, 10) without sites", new StormHire().site(0, 10), -1);
    }

    /** "8 for the cause of its latest dark hour (NONE if it was never dark)": a lit hour does not change it. */
    private static void siteTellsTheLatestCause() {
        StormHire x = new StormHire();
        Scenes.setWithFuel(x, 50, 10, 10, 10);
        x.addSite(5, 50, 1, 99);
        Check.due("never dark", x.site(0, 8), -5);
        x.pass(1);
        Check.due("not open is not dark", x.site(0, 8), -5);
        x.pass(1);
        Check.due("no set", x.site(0, 8), 1);
        x.bring(0, 0);
        Check.due("a set that comes changes nothing", x.site(0, 8), 1);
        x.pass(1);
        Check.due("too cold", x.site(0, 8), 3);
        x.pass(1);
        Check.due("a lit hour", x.site(0, 5), 1);
        Check.due("the cause stays", x.site(0, 8), 3);
        x.pass(1);
        Check.due("dry", x.site(0, 8), 2);
        x.takeBack(0);
        x.pass(1);
        Check.due("no set again", x.site(0, 8), 1);
        StormHire lit = new StormHire();
        Scenes.setWithFuel(lit, 50, 10, 0, 100);
        lit.addSite(5, 50, 0, 3);
        lit.bring(0, 0);
        lit.pass(9);
        Check.due("lit to its end", lit.site(0, 8), -5);
    }

    /** why: "UNKNOWN". */
    private static void whyKnowsItsSites() {
        for (int site : new int[] {MIN, -5, -1, 4, 12, MAX}) {
            Twin.unchanged("why(" + site + ") of four", Scenes::busy, x -> x.why(site), -1);
        }
        Check.due("why(11) of twelve", Scenes.full().why(11), 1);
        Twin.unchanged("why(12) of twelve", Scenes::full, x -> x.why(12), -1);
        Twin.unchanged("why(0) without sites", Scenes::fresh, x -> x.why(0), -1);
    }

    /** why: "NONE if it is not open now", with a set or without. */
    private static void whyIsNoneIfNotOpen() {
        for (int hour = 0; hour <= 6; hour++) {
            StormHire x = new StormHire();
            Scenes.setWithFuel(x, 50, 10, 0, 100);
            x.addSite(5, 50, 3, 5);
            x.addSite(5, 50, 3, 5);
            x.bring(0, 1);
            Scenes.passTo(x, hour);
            boolean open = hour == 3 || hour == 4;
            Check.due("without a set at hour " + hour, x.why(0), open ? 1 : -5);
            Check.due("with one at hour " + hour, x.why(1), open ? 0 : -5);
        }
        Twin.unchanged("a site to come", Scenes::busy, x -> x.why(3), -5);
    }

    /** why: "for which cause a site would be dark if an hour passed now": it is what the next hour brings. */
    private static void whyTellsWhatComes() {
        StormHire x = new StormHire();
        Scenes.setWithFuel(x, 50, 10, 10, 35);
        x.addSite(5, 50, 0, 99);
        int[] due = {1, 3, 3, 0, 0, 0, 2, 2};
        for (int hour = 0; hour < due.length; hour++) {
            if (hour == 1) {
                x.weather(2);
                x.bring(0, 0);
            }
            Check.due("why at hour " + hour, x.why(0), due[hour]);
            Check.due("why again", x.why(0), due[hour]);
            Check.due("pass(1) at hour " + hour, x.pass(1), due[hour] == 0 ? 1 : 0);
            if (due[hour] > 0) {
                Check.due("the cause at hour " + hour, x.site(0, 8), due[hour]);
            }
        }
    }

    /** needy: "BAD_VALUE if place is negative; NONE if there are not so many". */
    private static void needyTakesPlaces() {
        for (int place : new int[] {MIN, -12, -1}) {
            Twin.unchanged("needy(" + place + ")", Scenes::busy, x -> x.needy(place), -2);
            Twin.unchanged("needy(" + place + ") of a new object", Scenes::fresh, x -> x.needy(place), -2);
        }
        int[] due = {1, 0, 2, -5, -5};
        for (int place = 0; place < due.length; place++) {
            Check.due("needy(" + place + ") of three open", Scenes.busy().needy(place), due[place]);
        }
        for (int place : new int[] {3, 4, 12, 13, MAX}) {
            Twin.unchanged("needy(" + place + ") of three open", Scenes::busy, x -> x.needy(place), -5);
        }
        Twin.unchanged("needy(0) of a new object", Scenes::fresh, x -> x.needy(0), -5);
        int[] twelve = {8, 7, 6, 5, 4, 3, 11, 2, 10, 1, 9, 0};
        StormHire x = Scenes.full();
        for (int place = 0; place < 12; place++) {
            Check.due("needy(" + place + ") of twelve", x.needy(place), twelve[place]);
        }
        Check.due("needy(12) of twelve", x.needy(12), -5);
        Check.due("needy(-1) of twelve", x.needy(-1), -2);
        x.pass(19);
        Check.due("in the last hour", x.needy(11), 0);
        x.pass(1);
        Check.due("when all are over", x.needy(0), -5);
    }

    /** thirsty: "BAD_VALUE if place is negative; NONE if there are not so many". */
    private static void thirstyTakesPlaces() {
        for (int place : new int[] {MIN, -12, -1}) {
            Twin.unchanged("thirsty(" + place + ")", Scenes::busy, x -> x.thirsty(place), -2);
            Twin.unchanged("thirsty(" + place + ") of a new object", Scenes::fresh, x -> x.thirsty(place), -2);
        }
        int[] due = {1, 0, -5, -5};
        for (int place = 0; place < due.length; place++) {
            Check.due("thirsty(" + place + ") of two", Scenes.busy().thirsty(place), due[place]);
        }
        for (int place : new int[] {2, 3, 12, 13, MAX}) {
            Twin.unchanged("thirsty(" + place + ") of two", Scenes::busy, x -> x.thirsty(place), -5);
        }
        Twin.unchanged("thirsty(0) of a new object", Scenes::fresh, x -> x.thirsty(0), -5);
        Twin.unchanged("thirsty(0) when no site has a set", Scenes::full, x -> x.thirsty(0), -5);
        int[] ten = {1, 0, 3, 2, 5, 4, 7, 6, 8, 9};
        StormHire x = Scenes.crowded();
        for (int place = 0; place < 10; place++) {
            Check.due("thirsty(" + place + ") of ten", x.thirsty(place), ten[place]);
        }
        Check.due("thirsty(10) of ten", x.thirsty(10), -5);
        Check.due("thirsty(-1) of ten", x.thirsty(-1), -2);
        x.pass(20);
        Check.due("when all are over", x.thirsty(0), -5);
    }

    /** thirsty: "among the sites that have a set, in the order of a fuel run", open or not, full or not. */
    private static void thirstyGoesByHoursThenNeed() {
        StormHire x = new StormHire();
        Scenes.setWithFuel(x, 50, 10, 0, 39);
        Scenes.setWithFuel(x, 50, 10, 0, 30);
        Scenes.setWithFuel(x, 50, 50, 0, 149);
        Scenes.setWithFuel(x, 50, 1, 0, 3);
        Scenes.setWithFuel(x, 50, 10, 0, 500);
        x.addSite(5, 20, 0, 9);
        x.addSite(5, 30, 5, 9);
        x.addSite(1, 50, 0, 9);
        x.addSite(5, 30, 0, 9);
        x.addSite(9, 50, 0, 9);
        for (int i = 0; i < 5; i++) {
            x.bring(i, i);
        }
        int[] due = {2, 1, 3, 0, 4, -5};
        for (int place = 0; place < due.length; place++) {
            Check.due("thirsty(" + place + ")", x.thirsty(place), due[place]);
        }
    }

    /** forecast: "hours: 1 to 24", "what: 0 ... 3". */
    private static void forecastTakesItsRanges() {
        for (int hours : new int[] {MIN, -24, -1, 0, 25, 26, 999, MAX}) {
            for (int what = 0; what <= 3; what++) {
                int asked = what;
                Twin.unchanged("forecast(" + hours + ", " + what + ")", Scenes::busy,
                    x -> x.forecast(hours, asked), -2);
            }
        }
        for (int what : new int[] {MIN, -5, -1, 4, 5, MAX}) {
            for (int hours : new int[] {1, 24}) {
                Twin.unchanged("forecast(" + hours + ", " + what + ")", Scenes::busy, x -> x.forecast(hours, what), -2);
            }
            Twin.unchanged("forecast(0, " + what + ")", Scenes::busy, x -> x.forecast(0, what), -2);
        }
        int[][] due = {{1, 1, 2, 20, 0}, {2, 3, 3, 60, 2}, {23, 8, 53, 160, 2}, {24, 8, 54, 160, 2}};
        for (int[] row : due) {
            for (int what = 0; what <= 3; what++) {
                int asked = what;
                Twin.unchanged("forecast(" + row[0] + ", " + what + ")", Scenes::busy,
                    x -> x.forecast(row[0], asked), row[what + 1]);
            }
        }
    }

    /** forecast: "NOT_POSSIBLE if the hour would become more than 999". */
    private static void forecastGoesToHour999() {
        int[][] rows = {{975, 24}, {976, 23}, {990, 9}, {998, 1}};
        for (int[] row : rows) {
            for (int what = 0; what <= 3; what++) {
                int asked = what;
                String call = "at " + row[0] + ": forecast of " + what;
                Twin.unchanged(call, () -> Scenes.atHour(row[0]), x -> x.forecast(row[1], asked), what == 3 ? -5 : 0);
                if (row[1] < 24) {
                    Twin.unchanged(call + ", one hour more", () -> Scenes.atHour(row[0]),
                        x -> x.forecast(row[1] + 1, asked), -4);
                }
            }
        }
        Twin.unchanged("forecast(24, 0) at 976", () -> Scenes.atHour(976), x -> x.forecast(24, 0), -4);
        Twin.unchanged("forecast(1, 0) at 999", () -> Scenes.atHour(999), x -> x.forecast(1, 0), -4);
    }

    /** forecast: the order "BAD_VALUE; NOT_POSSIBLE". */
    private static void forecastIsBadBeforeNotPossible() {
        int[][] rows = {{0, 0}, {-1, 0}, {25, 0}, {1, 4}, {1, -1}, {24, 4}, {MAX, 0}, {MAX, MAX}, {MIN, 0}};
        for (int[] row : rows) {
            Twin.unchanged("forecast" + Arrays.toString(row) + " at 999", () -> Scenes.atHour(999),
                x -> x.forecast(row[0], row[1]), -2);
        }
    }

    /** "3 for the site with the most dark hours among these (the lowest one of several; NONE if none would be
     * dark)". */
    private static void forecastTellsTheLowestDarkestSite() {
        int[][] rows = {{0, 5, 0, 5, 0, 5, 0}, {0, 4, 0, 5, 0, 5, 1}, {0, 4, 0, 4, 0, 5, 2}, {0, 5, 0, 4, 1, 6, 0},
            {6, 9, 6, 9, 6, 9, -5}, {6, 9, 6, 9, 4, 9, 2}, {4, 5, 0, 1, 2, 3, 0}, {1, 3, 3, 6, 4, 6, 0}};
        for (int[] row : rows) {
            StormHire x = new StormHire();
            for (int i = 0; i < 3; i++) {
                x.addSite(1 + i, 50, row[2 * i], row[2 * i + 1]);
            }
            Check.due("dark most within 5: " + Arrays.toString(row), x.forecast(5, 3), row[6]);
        }
        StormHire x = new StormHire();
        for (int i = 0; i < 12; i++) {
            x.addSite(1, 50, i < 11 ? 5 : 4, 10);
        }
        Check.due("the last of twelve", x.forecast(5, 3), 11);
        x.pass(5);
        Check.due("those that were dark before do not count", x.forecast(5, 3), 0);
        StormHire lit = new StormHire();
        Scenes.setWithFuel(lit, 50, 10, 0, 100);
        lit.addSite(5, 50, 0, 20);
        lit.pass(3);
        lit.bring(0, 0);
        Check.due("none would be dark", lit.forecast(10, 3), -5);
        Check.due("one hour would be", lit.forecast(11, 3), 0);
        Check.due("none, though it was dark", lit.forecast(10, 1), 0);
    }

    /** "what would be if hours passed now, one after the other, and nothing else happened": as pass() then does. */
    private static void forecastTellsWhatComes() {
        for (int hours = 1; hours <= 24; hours++) {
            StormHire x = Scenes.busy();
            int lit = x.forecast(hours, 0);
            int dark = x.forecast(hours, 1);
            int burnt = x.forecast(hours, 2);
            int[] before = {x.count(11), x.count(12), x.count(5)};
            Check.due("pass(" + hours + ")", x.pass(hours), lit);
            Check.due("lit", x.count(11) - before[0], lit);
            Check.due("dark", x.count(12) - before[1], dark);
            Check.due("burnt", x.count(5) - before[2], burnt);
        }
        StormHire x = new StormHire();
        Scenes.setWithFuel(x, 50, 10, 10, 100);
        x.addSite(5, 50, 0, 4);
        x.addSite(5, 50, 3, 9);
        x.bring(0, 0);
        x.weather(-5);
        int[][] due = {{1, 0, 1, 0, 0}, {3, 0, 3, 0, 0}, {4, 1, 4, 10, 0}, {9, 1, 9, 10, 1}, {24, 1, 9, 10, 1}};
        for (int[] row : due) {
            for (int what = 0; what <= 3; what++) {
                Check.due("warming, then over: forecast(" + row[0] + ", " + what + ")", x.forecast(row[0], what),
                    row[what + 1]);
            }
        }
    }

    /** count: "what: 0 ... 16"; else "BAD_VALUE". */
    private static void countTellsSeventeenNumbers() {
        int[] busy = {1, 104, 7, 810, 170, 20, 1000, 3, 1, 4, 3, 1, 2, 280, 1, 5, 18};
        int[] full = {0, 105, 10, 50000, 0, 0, 50000, 10, 10, 12, 12, 0, 0, 0, 0, 5, 0};
        for (int what = 0; what <= 16; what++) {
            Check.due("count(" + what + "), busy", Scenes.busy().count(what), busy[what]);
            Check.due("count(" + what + "), full", Scenes.full().count(what), full[what]);
        }
        for (int what : new int[] {MIN, -5, -1, 17, 18, MAX}) {
            Twin.unchanged("count(" + what + ")", Scenes::busy, x -> x.count(what), -2);
            Twin.unchanged("count(" + what + ") of a new object", Scenes::fresh, x -> x.count(what), -2);
        }
    }

    /** The greatest and the least of what is counted. */
    private static void countTellsTheExtremes() {
        StormHire x = new StormHire();
        x.weather(-30);
        Check.due("the coldest", x.count(1), 70);
        x.weather(20);
        Check.due("the warmest", x.count(1), 120);
        Check.due("the last hour", Scenes.atHour(999).count(0), 999);
        StormHire most = new StormHire();
        for (int i = 0; i < 10; i++) {
            Check.fullSet(most, 99, 500, 50, -30);
        }
        for (int i = 0; i < 12; i++) {
            most.addSite(1, 1, 0, 999);
        }
        Check.due("all tanks full", most.count(4), 5000);
        most.giveOut();
        Check.due("no set in the yard", most.count(8), 0);
        Check.due("all sites open", most.count(10), 12);
        for (int i = 0; i < 41; i++) {
            most.pass(24);
        }
        most.pass(15);
        Check.due("lit", most.count(11), 100);
        Check.due("dark", most.count(12), 12 * 999 - 100);
        Check.due("burnt", most.count(5), 5000);
        Check.due("tanks empty", most.count(4), 0);
        Check.due("bills", most.count(13), 100 * 990);
        Check.due("failed starts, not those without a set", most.count(14), 10 * 989);
        Check.due("none is open", most.count(10), 0);
        Check.due("all in the yard", most.count(8), 10);
    }

    /** Fuel goes from the depot to tanks and is burnt: the sum of the three is what was bought. */
    private static void countFollowsWhatItCounts() {
        StormHire x = Scenes.busy();
        for (int round = 0; round < 12; round++) {
            x.pass(2);
            x.fuelRun();
            x.giveOut();
            x.swap();
            x.fill(round % 3);
            Check.due("litres, round " + round, x.count(3) + x.count(4) + x.count(5), x.count(6));
            int sites = x.count(9);
            int[] sums = new int[4];
            for (int site = 0; site < sites; site++) {
                for (int what = 0; what < 3; what++) {
                    sums[what] += x.site(site, 5 + what);
                }
                sums[3] += x.site(site, 9);
            }
            Check.due("lit", x.count(11), sums[0]);
            Check.due("dark", x.count(12), sums[1]);
            Check.due("bills", x.count(13), sums[2]);
            Check.due("open", x.count(10), sums[3]);
        }
    }

    /** No call that tells something is an act, or changes what is told. */
    private static void tellingChangesNothing() {
        Twin.unchanged("set(1, 4)", Scenes::busy, x -> x.set(1, 4), 70);
        Twin.unchanged("site(1, 7)", Scenes::busy, x -> x.site(1, 7), 280);
        Twin.unchanged("why(0)", Scenes::busy, x -> x.why(0), 3);
        Twin.unchanged("why(1)", Scenes::busy, x -> x.why(1), 0);
        Twin.unchanged("why(2)", Scenes::busy, x -> x.why(2), 1);
        Twin.unchanged("needy(2)", Scenes::busy, x -> x.needy(2), 2);
        Twin.unchanged("thirsty(1)", Scenes::busy, x -> x.thirsty(1), 0);
        Twin.unchanged("count(13)", Scenes::busy, x -> x.count(13), 280);
        Twin.unchanged("forecast(24, 0)", Scenes::crowded, x -> x.forecast(24, 0), 120);
    }
}
