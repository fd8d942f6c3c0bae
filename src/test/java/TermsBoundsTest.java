/** The document's terms at their bounds: above each method stands what it holds, mostly in the document's words. */
public final class TermsBoundsTest {
    public static void main(String[] args) {
        siteIsOpenFromUntil();
        siteOpensInsideOneCall();
        sitesGoByNeed();
        leastPowerIsGiven();
        giveOutGoesByNeed();
        setComesStillAndCold();
        swapPassesOverThoseItCannotServe();
        swapTakesTheWeakestThatFits();
        swapLooksAtClosedSitesToo();
        swapGivesTheWeakestInTheYard();
        fewestHoursAreFilledFirst();
        likeHoursGoByNeed();
        truckGoesToClosedSitesAlone();
        darkWithoutASet();
        startNeedsTheBurn();
        startNeedsTheLimit();
        startNeedsWarmthByFives();
        dryComesBeforeCold();
        runningSetIsNotStarted();
        runsNoMoreBelowItsBurn();
        drySetIsStartedAnew();
        siteLosesItsSetAtItsEnd();
        sitesEndTogether();
        billIsPowerTimesPrice();
        hoursPassOneAfterTheOther();
        Check.end("TermsBoundsTest");
    }

    /** "it is open in an hour h if from <= h < until": before, first, last and end, in all that asks for it. */
    private static void siteIsOpenFromUntil() {
        int[][] rows = {{3, 6}, {0, 1}, {0, 2}, {1, 2}, {23, 25}};
        for (int[] row : rows) {
            for (int hour = 0; hour <= row[1] + 1; hour++) {
                String at = "from " + row[0] + " until " + row[1] + ", hour " + hour;
                boolean open = row[0] <= hour && hour < row[1];
                int lived = Math.max(0, Math.min(hour, row[1]) - row[0]);
                StormHire x = new StormHire();
                x.addSite(5, 50, row[0], row[1]);
                Scenes.passTo(x, hour);
                Check.due(at + ": open", x.site(0, 9), open ? 1 : 0);
                Check.due(at + ": why", x.why(0), open ? 1 : -5);
                Check.due(at + ": needy", x.needy(0), open ? 0 : -5);
                Check.due(at + ": count(10)", x.count(10), open ? 1 : 0);
                Check.due(at + ": dark hours", x.site(0, 6), lived);
                Check.due(at + ": forecast", x.forecast(1, 1), open ? 1 : 0);
                Check.due(at + ": lit hours", x.site(0, 5), 0);
            }
        }
        StormHire x = Scenes.atHour(997);
        x.addSite(5, 50, 998, 999);
        Check.due("not open at 997", x.site(0, 9), 0);
        x.pass(1);
        Check.due("open at 998", x.site(0, 9), 1);
        x.pass(1);
        Check.due("over at 999", x.site(0, 9), 0);
        Check.due("one dark hour", x.site(0, 6), 1);
    }

    /** A site that opens and ends within one pass(). */
    private static void siteOpensInsideOneCall() {
        StormHire x = new StormHire();
        Check.fullSet(x, 50, 500, 10, 0);
        x.addSite(5, 50, 5, 8);
        x.addSite(5, 50, 7, 24);
        x.addSite(5, 50, 23, 24);
        x.addSite(5, 50, 24, 25);
        x.bring(0, 0);
        Check.due("pass(24)", x.pass(24), 3);
        int[] dark = {0, 17, 1, 0};
        for (int site = 0; site < 4; site++) {
            Check.due("dark hours of site " + site, x.site(site, 6), dark[site]);
        }
        Check.due("the next one is open", x.needy(0), 3);
        Check.due("no other is", x.needy(1), -5);
    }

    /** "the one with the greater rank is ahead; of the same, the one with the greater load; of the same, the one
     * with the lower number". */
    private static void sitesGoByNeed() {
        int[][][] rows = {
            {{2, 1}, {1, 99}}, {{1, 99}, {2, 1}}, {{9, 1}, {8, 99}}, {{8, 99}, {9, 1}},
            {{5, 50}, {5, 51}}, {{5, 51}, {5, 50}}, {{5, 1}, {5, 99}}, {{5, 50}, {5, 50}}};
        int[] ahead = {0, 1, 0, 1, 1, 0, 1, 0};
        for (int i = 0; i < rows.length; i++) {
            StormHire x = new StormHire();
            for (int[] site : rows[i]) {
                x.addSite(site[0], site[1], 0, 9);
            }
            Check.due("the first of pair " + i, x.needy(0), ahead[i]);
            Check.due("the second of pair " + i, x.needy(1), 1 - ahead[i]);
        }
        StormHire x = new StormHire();
        for (int i = 0; i < 12; i++) {
            x.addSite(5, 50, 0, 9);
        }
        for (int i = 0; i < 12; i++) {
            Check.due("twelve alike: needy(" + i + ")", x.needy(i), i);
        }
    }

    /** "the set in the yard that fits it and has the least power (of several the one with the lowest number)". */
    private static void leastPowerIsGiven() {
        int[][] rows = {{49, 50, 51, 1}, {51, 50, 49, 1}, {50, 50, 50, 0}, {99, 51, 52, 1}, {49, 99, 98, 2},
            {51, 60, 51, 0}, {49, 49, 99, 2}, {49, 49, 49, -5}, {60, 50, 50, 1}};
        for (int[] row : rows) {
            StormHire x = new StormHire();
            for (int i = 0; i < 3; i++) {
                x.addSet(row[i], 10, 1, 0);
            }
            x.addSite(5, 50, 0, 9);
            Check.due("giveOut()", x.giveOut(), row[3] < 0 ? -5 : 1);
            Check.due("the set that is given", x.site(0, 4), row[3]);
        }
        StormHire x = new StormHire();
        for (int i = 0; i < 10; i++) {
            x.addSet(60, 10, 1, 0);
        }
        for (int i = 0; i < 12; i++) {
            x.addSite(5, 50, 0, 9);
        }
        Check.due("ten to twelve alike", x.giveOut(), 10);
        for (int i = 0; i < 12; i++) {
            Check.due("the set of site " + i, x.site(i, 4), i < 10 ? i : -5);
        }
    }

    /** "each site that is open now and has no set, by need": the last set goes to the neediest that it fits. */
    private static void giveOutGoesByNeed() {
        StormHire x = new StormHire();
        x.addSet(50, 10, 1, 0);
        x.addSite(5, 50, 0, 9);
        x.addSite(9, 51, 0, 9);
        x.addSite(8, 1, 1, 9);
        x.addSite(6, 2, 0, 9);
        x.addSite(6, 3, 0, 9);
        x.addSite(6, 3, 0, 9);
        Check.due("one set", x.giveOut(), 1);
        Check.due("not to the neediest that it does not fit, nor to one that is not open", x.set(0, 5), 4);
        x.addSet(50, 10, 1, 0);
        Check.due("one more", x.giveOut(), 1);
        Check.due("a site that has one gets no second", x.set(1, 5), 5);
        x.pass(1);
        x.addSet(50, 10, 1, 0);
        Check.due("then site 2 is open", x.giveOut(), 1);
        Check.due("and ahead", x.set(2, 5), 2);
    }

    /** "A set that comes to a site does not run then, and its warmth is 0. Its fuel stays in its tank." */
    private static void setComesStillAndCold() {
        StormHire x = new StormHire();
        Check.fullSet(x, 80, 100, 10, 10);
        x.addSite(5, 50, 0, 99);
        x.addSite(6, 50, 0, 99);
        x.bring(0, 0);
        x.pass(2);
        Check.due("it runs", x.set(0, 6), 1);
        Check.due("it is warm", x.set(0, 7), 1);
        x.takeBack(0);
        x.bring(0, 1);
        stillAndCold(x, "brought", 0, 90);
        x.takeBack(1);
        x.giveOut();
        Check.due("given to the needier", x.set(0, 5), 1);
        stillAndCold(x, "given", 0, 90);
        x.pass(2);
        Check.due("warm again", x.set(0, 7), 1);
        x.addSet(50, 100, 10, 10);
        x.fill(1);
        x.addSite(1, 70, 0, 99);
        x.takeBack(1);
        x.bring(0, 0);
        x.bring(1, 1);
        x.pass(2);
        x.addSet(50, 100, 10, 10);
        Check.due("the running set goes over", x.swap(), 200);
        stillAndCold(x, "swapped", 0, 70);
        stillAndCold(x, "from the yard", 2, 0);
        Check.due("another one runs on", x.set(1, 6), 1);
        Check.due("and stays warm", x.set(1, 7), 1);
    }

    private static void stillAndCold(StormHire x, String how, int set, int fuel) {
        Check.due(how + ": does not run", x.set(set, 6), 0);
        Check.due(how + ": its warmth", x.set(set, 7), 0);
        Check.due(how + ": its fuel", x.set(set, 4), fuel);
    }

    /** "The sites that are open now, have no set, and for which no set in the yard fits, are gone through by need." */
    private static void swapPassesOverThoseItCannotServe() {
        StormHire x = new StormHire();
        x.addSet(80, 10, 1, 0);
        x.addSet(30, 10, 1, 0);
        x.addSite(9, 20, 0, 9);
        x.bring(0, 0);
        x.addSite(9, 81, 0, 9);
        x.addSite(8, 30, 0, 9);
        x.addSite(7, 80, 1, 9);
        x.addSite(6, 70, 0, 9);
        x.addSite(6, 71, 0, 9);
        x.addSite(6, 71, 0, 9);
        Check.due("no giver for 1, the yard serves 2, 3 is closed, 5 is ahead of 4 and 6", x.swap(), 500);
        Check.due("the site that the yard would have served waits", x.site(2, 4), -5);
        Check.due("at most one swap at a time", x.site(4, 4), -5);
        Check.due("the yard is empty", x.count(8), 0);
    }

    /** "the one whose set has the least power is chosen (of several the site with the lowest number)". */
    private static void swapTakesTheWeakestThatFits() {
        int[][] rows = {{80, 75, 90, 1}, {90, 80, 75, 2}, {75, 75, 75, 0}, {80, 75, 75, 1}, {69, 90, 80, 2},
            {70, 71, 72, 0}, {71, 70, 69, 1}, {69, 69, 70, 2}, {69, 69, 69, -5}, {99, 69, 99, 0}};
        for (int[] row : rows) {
            StormHire x = new StormHire();
            for (int i = 0; i < 3; i++) {
                x.addSet(row[i], 10, 1, 0);
                x.addSite(3 - i, 60, 0, 9);
                x.bring(i, i);
            }
            x.addSet(60, 10, 1, 0);
            x.addSite(1, 70, 0, 9);
            Check.due("givers of " + row[0] + ", " + row[1] + ", " + row[2], x.swap(), row[3] < 0 ? -5 : 300 + row[3]);
        }
        StormHire x = new StormHire();
        x.addSet(75, 10, 1, 0);
        x.addSet(80, 10, 1, 0);
        x.addSite(5, 61, 0, 9);
        x.addSite(5, 60, 0, 9);
        x.bring(0, 0);
        x.bring(1, 1);
        x.addSet(60, 10, 1, 0);
        x.addSite(1, 70, 0, 9);
        Check.due("no set in the yard fits the weaker giver", x.swap(), 201);
    }

    /** "the sites (open or not) that have a set which fits it". */
    private static void swapLooksAtClosedSitesToo() {
        StormHire x = new StormHire();
        x.addSet(75, 10, 1, 0);
        x.addSet(80, 10, 1, 0);
        x.addSite(5, 60, 0, 9);
        x.addSite(5, 60, 0, 9);
        x.bring(1, 0);
        x.bring(0, 1);
        x.addSite(1, 70, 0, 9);
        x.addSite(1, 60, 5, 9);
        x.takeBack(1);
        x.bring(0, 3);
        x.addSet(60, 10, 1, 0);
        x.addSite(9, 62, 0, 9);
        Check.due("the closed site has the weakest", x.swap(), 403);
        Check.due("its new set", x.site(3, 4), 2);
    }

    /** "it gets the set in the yard that fits it and has the least power (of several the one with the lowest
     * number)": the yard as it was, so the set that is given away is not among these. */
    private static void swapGivesTheWeakestInTheYard() {
        int[][] rows = {{59, 60, 61, 2}, {61, 60, 59, 2}, {60, 60, 60, 1}, {69, 65, 65, 2}, {59, 59, 69, 3},
            {61, 59, 61, 1}, {69, 68, 67, 3}};
        for (int[] row : rows) {
            StormHire x = new StormHire();
            x.addSet(70, 10, 1, 0);
            for (int i = 0; i < 3; i++) {
                x.addSet(row[i], 10, 1, 0);
            }
            x.addSite(5, 60, 0, 9);
            x.bring(0, 0);
            x.addSite(1, 70, 0, 9);
            Check.due("swap()", x.swap(), 100);
            Check.due("the small set", x.site(0, 4), row[3]);
            Check.due("the big set", x.site(1, 4), 0);
            Check.due("sets in the yard", x.count(8), 2);
        }
    }

    /** "the one whose set has the fewest hours left is first (the fuel ... divided by its burn, rounded down)". */
    private static void fewestHoursAreFilledFirst() {
        int[][] rows = {{30, 10, 29, 10, 1}, {29, 10, 30, 10, 0}, {39, 10, 30, 10, 0}, {30, 10, 39, 10, 0},
            {40, 10, 39, 10, 1}, {100, 50, 90, 30, 0}, {9, 10, 0, 10, 0}, {10, 10, 9, 10, 1}, {3, 1, 199, 50, 0},
            {4, 1, 199, 50, 1}};
        for (int[] row : rows) {
            String call = java.util.Arrays.toString(row);
            StormHire x = new StormHire();
            Scenes.setWithFuel(x, 50, row[1], 0, row[0]);
            Scenes.setWithFuel(x, 50, row[3], 0, row[2]);
            x.addSite(9, 50, 0, 9);
            x.addSite(1, 50, 0, 9);
            x.bring(0, 0);
            x.bring(1, 1);
            x.buy(1);
            Check.due("hours left " + call, x.set(0, 9), row[0] / row[1]);
            Check.due("hours left " + call, x.set(1, 9), row[2] / row[3]);
            Check.due("thirsty(0) " + call, x.thirsty(0), row[4]);
            Check.due("thirsty(1) " + call, x.thirsty(1), 1 - row[4]);
            Check.due("fuelRun() " + call, x.fuelRun(), 1);
            Check.due("the litre goes to the first " + call, x.set(row[4], 4), row[2 * row[4]] + 1);
        }
    }

    /** "of the same, by need": by rank, load and number, whichever set it is. */
    private static void likeHoursGoByNeed() {
        int[][] rows = {{1, 9, 2, 8, 1}, {2, 8, 1, 9, 0}, {5, 8, 5, 9, 1}, {5, 9, 5, 8, 0}, {5, 9, 5, 9, 0}};
        for (int[] row : rows) {
            StormHire x = new StormHire();
            x.addSet(50, 100, 7, 0);
            x.addSet(50, 200, 9, 0);
            x.addSite(row[0], row[1], 3, 9);
            x.addSite(row[2], row[3], 0, 9);
            x.bring(0, 1);
            x.bring(1, 0);
            x.buy(5);
            Check.due("thirsty(0)", x.thirsty(0), row[4]);
            Check.due("fuelRun()", x.fuelRun(), 5);
            Check.due("the five litres", x.set(x.site(row[4], 4), 4), 5);
        }
    }

    /** "It goes to all sites, open or not, that have a set": not to the yard; each tank is filled up in turn. */
    private static void truckGoesToClosedSitesAlone() {
        StormHire x = new StormHire();
        x.addSet(50, 100, 10, 0);
        x.addSet(50, 150, 10, 0);
        x.addSet(50, 100, 10, 0);
        x.addSet(50, 500, 10, 0);
        x.addSite(1, 50, 0, 9);
        x.addSite(9, 50, 5, 9);
        x.addSite(5, 50, 8, 9);
        x.bring(0, 0);
        x.bring(1, 1);
        x.bring(2, 2);
        x.buy(1000);
        Check.due("fuelRun()", x.fuelRun(), 300);
        int[] fuel = {50, 150, 100, 0};
        for (int set = 0; set < 4; set++) {
            Check.due("fuel of set " + set, x.set(set, 4), fuel[set]);
        }
        Check.due("depot", x.count(3), 700);
        Check.due("fuelRun(), the rest comes back", x.fuelRun(), 50);
        Check.due("depot", x.count(3), 650);
        Check.due("it does not make a set run", x.set(0, 6) + x.set(1, 6) + x.set(2, 6), 0);
    }

    /** "Without a set it is dark for the cause 1": no start, no bill, nothing burnt. */
    private static void darkWithoutASet() {
        StormHire x = new StormHire();
        Check.fullSet(x, 50, 100, 10, 0);
        x.addSite(5, 50, 0, 9);
        Check.due("why", x.why(0), 1);
        Check.due("pass(1)", x.pass(1), 0);
        int[] due = {0, 1, 0, 1};
        for (int what = 5; what <= 8; what++) {
            Check.due("site(0, " + what + ")", x.site(0, what), due[what - 5]);
        }
        Check.due("no start failed", x.count(14), 0);
        Check.due("nothing is burnt", x.count(5), 0);
        Check.due("the set in the yard stays as it is", x.set(0, 4) + x.set(0, 6) + x.set(0, 8), 100);
    }

    /** "If it has less fuel than its burn, the start fails for the cause 2." */
    private static void startNeedsTheBurn() {
        int[][] rows = {{0, 10, 2}, {9, 10, 2}, {10, 10, 0}, {11, 10, 0}, {0, 1, 2}, {1, 1, 0}, {49, 50, 2},
            {50, 50, 0}};
        for (int[] row : rows) {
            String call = row[0] + " litres, a burn of " + row[1];
            StormHire x = new StormHire();
            Scenes.setWithFuel(x, 50, row[1], -30, row[0]);
            x.addSite(5, 50, 0, 9);
            x.bring(0, 0);
            boolean lit = row[2] == 0;
            Check.due(call + ": why", x.why(0), row[2]);
            Check.due(call + ": pass(1)", x.pass(1), lit ? 1 : 0);
            Check.due(call + ": cause", x.site(0, 8), lit ? -5 : 2);
            Check.due(call + ": fuel", x.set(0, 4), lit ? row[0] - row[1] : row[0]);
            Check.due(call + ": burnt", x.count(5), lit ? row[1] : 0);
            Check.due(call + ": failed starts", x.count(14), lit ? 0 : 1);
            Check.due(call + ": warmth", x.set(0, 7), 0);
            Check.due(call + ": bill", x.site(0, 7), lit ? 500 : 0);
            Check.due(call + ": hours run", x.set(0, 8), lit ? 1 : 0);
        }
    }

    private static StormHire cold(int limit, int degrees) {
        StormHire x = new StormHire();
        Check.fullSet(x, 50, 500, 10, limit);
        x.addSite(5, 50, 0, 99);
        x.bring(0, 0);
        if (degrees != 5) {
            x.weather(degrees);
        }
        return x;
    }

    /** "if the temperature is below its limit, and the degrees below are more than 5 * its warmth": warmth 0. */
    private static void startNeedsTheLimit() {
        int[][] rows = {{10, 11, 0}, {10, 10, 0}, {10, 9, 3}, {0, 1, 0}, {0, 0, 0}, {0, -1, 3}, {-5, -4, 0},
            {-5, -5, 0}, {-5, -6, 3}, {-29, -30, 3}, {-30, -30, 0}, {-30, 20, 0}, {10, 20, 0}, {10, -30, 3},
            {6, 5, 3}, {5, 5, 0}};
        for (int[] row : rows) {
            String call = "limit " + row[0] + " at " + row[1] + " degrees";
            StormHire x = cold(row[0], row[1]);
            boolean lit = row[2] == 0;
            Check.due(call + ": why", x.why(0), row[2]);
            Check.due(call + ": pass(1)", x.pass(1), lit ? 1 : 0);
            Check.due(call + ": cause", x.site(0, 8), lit ? -5 : 3);
            Check.due(call + ": warmth", x.set(0, 7), lit ? 0 : 1);
            Check.due(call + ": runs", x.set(0, 6), lit ? 1 : 0);
            Check.due(call + ": fuel", x.set(0, 4), lit ? 490 : 500);
            Check.due(call + ": failed starts", x.count(14), lit ? 0 : 1);
            Check.due(call + ": bill", x.site(0, 7), lit ? 500 : 0);
        }
    }

    /** "and its warmth becomes greater by 1": so many starts fail until 5 * the warmth is no less. */
    private static void startNeedsWarmthByFives() {
        int[][] rows = {{1, 1}, {4, 1}, {5, 1}, {6, 2}, {9, 2}, {10, 2}, {11, 3}, {15, 3}, {16, 4}, {35, 7}, {36, 8},
            {40, 8}};
        for (int[] row : rows) {
            String call = row[0] + " degrees below";
            StormHire x = cold(10, 10 - row[0]);
            for (int failed = 0; failed < row[1]; failed++) {
                Check.due(call + ": warmth", x.set(0, 7), failed);
                Check.due(call + ": why", x.why(0), 3);
                Check.due(call + ": pass(1)", x.pass(1), 0);
            }
            Check.due(call + ": warm enough", x.why(0), 0);
            Check.due(call + ": pass(1), lit", x.pass(1), 1);
            Check.due(call + ": warmth stays", x.set(0, 7), row[1]);
            Check.due(call + ": failed starts", x.count(14), row[1]);
            Check.due(call + ": dark hours", x.site(0, 6), row[1]);
            Check.due(call + ": at one go", cold(10, 10 - row[0]).pass(24), 24 - row[1]);
        }
        StormHire x = cold(10, 5);
        x.pass(1);
        x.takeBack(0);
        x.bring(0, 0);
        Check.due("taken back it is cold again", x.why(0), 3);
    }

    /** "Otherwise": the cold is looked at only if there is enough fuel; the cause 2 does not warm. */
    private static void dryComesBeforeCold() {
        StormHire x = new StormHire();
        Scenes.setWithFuel(x, 50, 10, 10, 9);
        x.addSite(5, 50, 0, 9);
        x.bring(0, 0);
        Check.due("dry and cold", x.why(0), 2);
        x.pass(2);
        Check.due("the cause", x.site(0, 8), 2);
        Check.due("no warmth", x.set(0, 7), 0);
        Check.due("failed starts", x.count(14), 2);
        x.buy(1);
        x.fuelRun();
        Check.due("then the cold", x.why(0), 3);
        x.pass(1);
        Check.due("the cause", x.site(0, 8), 3);
        Check.due("warmth", x.set(0, 7), 1);
        Check.due("failed starts", x.count(14), 3);
        Check.due("then it is lit", x.pass(1), 1);
    }

    /** "A set that does not run is started": one that runs is not, however cold it gets. */
    private static void runningSetIsNotStarted() {
        StormHire x = cold(10, 10);
        x.pass(1);
        x.weather(-30);
        Check.due("why", x.why(0), 0);
        Check.due("pass(3)", x.pass(3), 3);
        Check.due("warmth", x.set(0, 7), 0);
        Check.due("failed starts", x.count(14), 0);
        x.takeBack(0);
        x.bring(0, 0);
        Check.due("moved it must be started", x.why(0), 3);
    }

    /** "if its fuel is less than its burn then, it runs no more (its warmth stays)". */
    private static void runsNoMoreBelowItsBurn() {
        int[][] rows = {{10, 10, 0}, {19, 10, 0}, {20, 10, 1}, {21, 10, 1}, {1, 1, 0}, {2, 1, 1}, {99, 50, 0},
            {100, 50, 1}};
        for (int[] row : rows) {
            String call = row[0] + " litres, a burn of " + row[1];
            StormHire x = new StormHire();
            Scenes.setWithFuel(x, 50, row[1], 10, row[0]);
            x.addSite(5, 50, 0, 9);
            x.bring(0, 0);
            x.pass(1);
            Check.due(call + ": lit", x.pass(1), 1);
            Check.due(call + ": runs", x.set(0, 6), row[2]);
            Check.due(call + ": warmth", x.set(0, 7), 1);
            Check.due(call + ": fuel", x.set(0, 4), row[0] - row[1]);
            Check.due(call + ": why", x.why(0), row[2] == 1 ? 0 : 2);
            Check.due(call + ": the next hour", x.pass(1), row[2]);
        }
    }

    /** A set that ran dry is started anew when it has fuel: with the warmth that it had. */
    private static void drySetIsStartedAnew() {
        StormHire x = new StormHire();
        Scenes.setWithFuel(x, 50, 10, 5, 10);
        x.addSite(5, 50, 0, 99);
        x.bring(0, 0);
        x.pass(1);
        x.weather(0);
        x.buy(20);
        x.fuelRun();
        Check.due("it got cold while it ran: its warmth is 0", x.why(0), 3);
        Check.due("pass(2)", x.pass(2), 1);
        x.weather(-1);
        Check.due("it runs", x.why(0), 0);
        Check.due("pass(1), to the end of its fuel", x.pass(1), 1);
        x.buy(10);
        x.fuelRun();
        Check.due("six below with a warmth of 1", x.why(0), 3);
        x.weather(0);
        Check.due("five below with a warmth of 1", x.why(0), 0);
    }

    /** "Each site that wanted to be lit until this hour loses its set, which comes to the yard, and runs no more;
     * its warmth is 0." */
    private static void siteLosesItsSetAtItsEnd() {
        StormHire x = cold(10, 5);
        x.addSite(9, 50, 0, 3);
        x.takeBack(0);
        x.bring(0, 1);
        x.pass(2);
        int[] before = {480 + 10, 1, 1, 1, 1};
        int[] after = {480, -5, 0, 0, 2};
        for (int what = 4; what <= 8; what++) {
            Check.due("an hour before: set(0, " + what + ")", x.set(0, what), before[what - 4]);
        }
        Check.due("its last hour is lit", x.pass(1), 1);
        for (int what = 4; what <= 8; what++) {
            Check.due("at its end: set(0, " + what + ")", x.set(0, what), after[what - 4]);
        }
        Check.due("the site has none", x.site(1, 4), -5);
        Check.due("it is over", x.site(1, 9), 0);
        Check.due("its hours stay", x.site(1, 5) * 10 + x.site(1, 6), 21);
        Check.due("its bill stays", x.site(1, 7), 1000);
        Check.due("its cause stays", x.site(1, 8), 3);
        Check.due("in the yard", x.count(8), 1);
        Check.due("the set can go to another", x.bring(0, 0), 0);
        Check.due("and is cold", x.why(0), 3);
        StormHire last = Scenes.atHour(998);
        Check.fullSet(last, 50, 100, 10, 0);
        last.addSite(5, 50, 0, 999);
        last.giveOut();
        last.pass(1);
        Check.due("a site until 999 ends at 999", last.set(0, 5), -5);
    }

    /** All that end in the same hour end; one that ends later or earlier does not end then. */
    private static void sitesEndTogether() {
        StormHire x = new StormHire();
        for (int i = 0; i < 10; i++) {
            Check.fullSet(x, 50, 500, 10, 0);
        }
        int[] until = {5, 4, 5, 6, 5, 1, 5, 999, 5, 3};
        for (int i = 0; i < 10; i++) {
            x.addSite(5, 50, 0, until[i]);
            x.bring(i, i);
        }
        int[] yard = {0, 1, 1, 2, 3, 8, 9, 9};
        for (int hour = 0; hour < yard.length; hour++) {
            Check.due("in the yard at hour " + hour, x.count(8), yard[hour]);
            for (int i = 0; i < 10; i++) {
                Check.due("the set of site " + i + " at hour " + hour, x.site(i, 4), hour < until[i] ? i : -5);
            }
            x.pass(1);
        }
        Check.due("what is left runs", x.set(7, 6), 1);
    }

    /** "A site that is lit in an hour is billed the power of its set * the price." */
    private static void billIsPowerTimesPrice() {
        int[][] rows = {{1, 1, 1}, {99, 99, 9801}, {99, 1, 99}, {1, 99, 99}, {50, 10, 500}, {20, 7, 140}};
        for (int[] row : rows) {
            StormHire x = new StormHire();
            Check.fullSet(x, row[0], 100, 10, 0);
            x.addSite(5, 1, 0, 9);
            x.bring(0, 0);
            if (row[1] != 10) {
                x.setPrice(row[1]);
            }
            x.pass(1);
            Check.due(row[0] + " * " + row[1], x.site(0, 7), row[2]);
            Check.due("in all", x.count(13), row[2]);
        }
        StormHire x = cold(10, 9);
        x.pass(1);
        Check.due("a dark hour is not billed", x.site(0, 7), 0);
        x.pass(1);
        x.setPrice(99);
        Check.due("a lit hour has the price that was", x.site(0, 7), 500);
        x.pass(1);
        Check.due("a later one has its own", x.site(0, 7), 500 + 50 * 99);
        StormHire most = new StormHire();
        most.setPrice(99);
        for (int i = 0; i < 10; i++) {
            Check.fullSet(most, 99, 500, 1, -30);
            most.addSite(5, 1, 0, 999);
        }
        most.giveOut();
        for (int i = 0; i < 20; i++) {
            most.pass(24);
        }
        Check.due("480 hours of ten at the highest", most.count(13), 480 * 10 * 9801);
    }

    /** pass: "one after the other": as many single hours, and the same hours at one go, come to the same. */
    private static void hoursPassOneAfterTheOther() {
        StormHire one = Scenes.busy();
        StormHire other = Scenes.busy();
        int lit = 0;
        for (int i = 0; i < 24; i++) {
            lit += one.pass(1);
        }
        Check.due("lit", other.pass(24), lit);
        Check.holds("all else", Twin.same(Twin.state(one), Twin.state(other)));
    }
}
