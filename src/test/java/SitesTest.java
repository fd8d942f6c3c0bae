import java.util.Arrays;

/** Promises 7 to 13: addSite, bring, takeBack, giveOut, swap, fuelRun, pass. */
public final class SitesTest {
    public static void main(String[] args) {
        addSite();
        bring();
        takeBack();
        giveOut();
        swap();
        swapChoosesAmongGivers();
        swapGoesByNeed();
        fuelRun();
        fuelRunIsLimited();
        pass();
        passStarts();
        passWarms();
        passEndsSites();
        Check.end("SitesTest");
    }

    private static void addSite() {
        StormHire x = new StormHire();
        int[][] bad = {{0, 1, 0, 1}, {10, 1, 0, 1}, {1, 0, 0, 1}, {1, 100, 0, 1}, {1, 1, -1, 1}, {1, 1, 999, 1000},
            {1, 1, 999, 999}, {1, 1, 0, 0}, {1, 1, 5, 5}, {1, 1, 5, 4}, {1, 1, 0, 1000}, {-1, -1, -2, -1},
            {1, 1, Integer.MIN_VALUE, 5}, {1, 1, 0, Integer.MAX_VALUE}};
        for (int[] row : bad) {
            Check.due("addSite" + Arrays.toString(row), x.addSite(row[0], row[1], row[2], row[3]), -2);
        }
        Check.due("nothing recorded", x.count(15), 0);
        int[][] good = {{1, 1, 0, 1}, {9, 99, 998, 999}, {5, 50, 0, 999}};
        for (int i = 0; i < good.length; i++) {
            int[] row = good[i];
            Check.due("addSite" + Arrays.toString(row), x.addSite(row[0], row[1], row[2], row[3]), i);
            int[] due = {row[0], row[1], row[2], row[3], -5, 0, 0, 0, -5, row[2] == 0 ? 1 : 0};
            for (int what = 0; what < due.length; what++) {
                Check.due("site(" + i + ", " + what + ")", x.site(i, what), due[what]);
            }
        }
        x.pass(10);
        Check.due("until the present hour", x.addSite(1, 1, 0, 10), -2);
        Check.due("until the next hour", x.addSite(1, 1, 0, 11), 3);
        Check.due("it is open", x.site(3, 9), 1);
        for (int i = 4; i < 12; i++) {
            Check.due("addSite", x.addSite(1, 1, 20, 21), i);
        }
        Check.due("addSite, the thirteenth", x.addSite(1, 1, 20, 21), -3);
        Check.due("bad before full", x.addSite(1, 1, 20, 20), -2);
        Check.due("sites", x.count(9), 12);
        Check.due("undo", x.undo(), 4);
        Check.due("sites", x.count(9), 11);
        StormHire late = new StormHire();
        for (int i = 0; i < 41; i++) {
            late.pass(24);
        }
        late.pass(15);
        Check.due("hour", late.count(0), 999);
        Check.due("no site can be added then", late.addSite(1, 1, 0, 999), -2);
    }

    private static void bring() {
        StormHire x = new StormHire();
        x.addSet(20, 40, 10, 0);
        x.addSet(30, 40, 10, 0);
        x.addSite(1, 20, 5, 8);
        x.addSite(1, 25, 0, 3);
        Check.due("bring(-1, 0)", x.bring(-1, 0), -1);
        Check.due("bring(2, 0)", x.bring(2, 0), -1);
        Check.due("bring(0, -1)", x.bring(0, -1), -1);
        Check.due("bring(0, 2)", x.bring(0, 2), -1);
        Check.due("bring(MAX, MIN)", x.bring(Integer.MAX_VALUE, Integer.MIN_VALUE), -1);
        Check.due("does not fit", x.bring(0, 1), -4);
        Check.due("recorded", x.count(15), 4);
        Check.due("bring(0, 0), not open yet, of just this power", x.bring(0, 0), 1);
        Check.due("its site", x.set(0, 5), 0);
        Check.due("the site's set", x.site(0, 4), 0);
        Check.due("not in the yard", x.bring(0, 1), -4);
        Check.due("the site has one", x.bring(1, 0), -4);
        Check.due("bring(1, 1)", x.bring(1, 1), 0);
        Check.due("undo", x.undo(), 4);
        Check.due("in the yard again", x.set(1, 5), -5);
        x.pass(2);
        Check.due("the last hour", x.bring(1, 1), 0);
        x.takeBack(1);
        x.pass(1);
        Check.due("over", x.bring(1, 1), -4);
        Check.due("a site that is over and a set that is unknown", x.bring(2, 1), -1);
    }

    private static void takeBack() {
        StormHire x = new StormHire();
        Check.due("takeBack(0)", x.takeBack(0), -1);
        Check.fullSet(x, 20, 40, 10, 10);
        x.addSet(30, 40, 10, 0);
        x.addSite(1, 20, 0, 8);
        Check.due("takeBack(-1)", x.takeBack(-1), -1);
        Check.due("takeBack(1)", x.takeBack(1), -1);
        Check.due("takeBack(0) without a set", x.takeBack(0), -5);
        x.bring(0, 0);
        x.pass(1);
        Check.due("warm", x.set(0, 7), 1);
        Check.due("takeBack(0)", x.takeBack(0), 0);
        Check.due("cold", x.set(0, 7), 0);
        Check.due("in the yard", x.set(0, 5), -5);
        Check.due("the site has none", x.site(0, 4), -5);
        Check.due("its fuel stays", x.set(0, 4), 40);
        Check.due("takeBack(0) again", x.takeBack(0), -5);
        x.bring(1, 0);
        Check.due("the other set", x.takeBack(0), 1);
        x.bring(0, 0);
        x.weather(20);
        x.pass(1);
        Check.due("runs", x.set(0, 6), 1);
        x.takeBack(0);
        Check.due("runs no more", x.set(0, 6), 0);
        Check.due("hours that it has run", x.set(0, 8), 1);
        x.undo();
        Check.due("runs again", x.set(0, 6), 1);
        Check.due("at the site again", x.site(0, 4), 0);
    }

    private static void giveOut() {
        StormHire x = new StormHire();
        Check.due("giveOut() of nothing", x.giveOut(), -5);
        x.addSet(60, 40, 10, 0);
        Check.due("giveOut() without sites", x.giveOut(), -5);
        x.addSet(30, 40, 10, 0);
        x.addSet(30, 40, 10, 0);
        x.addSet(99, 40, 10, 0);
        x.addSite(5, 10, 0, 9);
        x.addSite(5, 30, 0, 9);
        x.addSite(9, 61, 0, 9);
        x.addSite(9, 1, 1, 9);
        x.addSite(5, 30, 0, 9);
        x.addSite(6, 99, 0, 9);
        Check.due("giveOut()", x.giveOut(), 4);
        int[] due = {0, 1, 3, -5, 2, -5};
        for (int site = 0; site < due.length; site++) {
            Check.due("given: site(" + site + ", 4)", x.site(site, 4), due[site]);
        }
        Check.due("giveOut() again", x.giveOut(), -5);
        Check.due("one act", x.undo(), 4);
        Check.due("all in the yard", x.count(8), 4);
        Check.due("no site has one", x.site(1, 4), -5);
        x.bring(3, 3);
        Check.due("giveOut() without the greatest", x.giveOut(), 3);
        Check.due("nothing fits site 2", x.site(2, 4), -5);
        Check.due("nothing fits site 5", x.site(5, 4), -5);
        Check.due("site 0 gets what is left", x.site(0, 4), 0);
        x.pass(9);
        Check.due("giveOut() when all are over", x.giveOut(), -5);
    }

    private static void swap() {
        StormHire x = new StormHire();
        Check.due("swap() of nothing", x.swap(), -5);
        Check.fullSet(x, 80, 50, 10, 10);
        Check.fullSet(x, 40, 50, 10, 10);
        x.addSite(1, 30, 0, 9);
        x.bring(0, 0);
        x.addSite(1, 40, 0, 9);
        Check.due("a set in the yard fits", x.swap(), -5);
        x.addSite(1, 70, 1, 9);
        Check.due("the site is not open", x.swap(), -5);
        x.pass(1);
        Check.due("warm", x.set(0, 7), 1);
        Check.due("swap()", x.swap(), 200);
        Check.due("the small set's site", x.set(1, 5), 0);
        Check.due("the big set's site", x.set(0, 5), 2);
        Check.due("site(0, 4)", x.site(0, 4), 1);
        Check.due("site(2, 4)", x.site(2, 4), 0);
        Check.due("cold", x.set(0, 7), 0);
        Check.due("its fuel stays", x.set(0, 4), 50);
        Check.due("swap() again", x.swap(), -5);
        Check.due("undo", x.undo(), 4);
        Check.due("warm again", x.set(0, 7), 1);
        Check.due("back again", x.site(0, 4), 0);
        x.weather(20);
        x.pass(1);
        Check.due("runs", x.set(0, 6), 1);
        Check.due("swap()", x.swap(), 200);
        Check.due("runs no more", x.set(0, 6), 0);
        Check.due("site 1 waits", x.site(1, 4), -5);
        noSwapWithoutSmallSet();
    }

    private static void noSwapWithoutSmallSet() {
        StormHire x = new StormHire();
        x.addSet(80, 50, 10, 10);
        x.addSet(29, 50, 10, 10);
        x.addSite(1, 30, 0, 9);
        x.bring(0, 0);
        x.addSite(1, 80, 0, 9);
        Check.due("no set in the yard fits the giver", x.swap(), -5);
        Check.due("recorded", x.count(15), 5);
        x.addSet(30, 50, 10, 10);
        x.addSet(30, 50, 10, 10);
        Check.due("one that just fits", x.swap(), 100);
        Check.due("of two alike the lower number", x.site(0, 4), 2);
        x = new StormHire();
        x.addSet(79, 50, 10, 10);
        x.addSet(30, 50, 10, 10);
        x.addSite(1, 30, 0, 9);
        x.bring(0, 0);
        x.addSite(1, 80, 0, 9);
        Check.due("the giver's set does not fit", x.swap(), -5);
    }

    private static void swapChoosesAmongGivers() {
        StormHire x = new StormHire();
        x.addSet(90, 50, 10, 0);
        x.addSet(70, 50, 10, 0);
        x.addSet(70, 50, 10, 0);
        x.addSet(60, 50, 10, 0);
        x.addSite(9, 10, 0, 9);
        x.addSite(1, 20, 5, 9);
        x.addSite(9, 30, 0, 9);
        x.addSite(1, 15, 0, 9);
        x.bring(0, 0);
        x.bring(2, 1);
        x.bring(1, 2);
        x.bring(3, 3);
        x.addSet(25, 50, 10, 0);
        x.addSet(22, 50, 10, 0);
        x.addSite(2, 65, 0, 9);
        Check.due("site 2 gets nothing instead, site 3's does not fit", x.swap(), 401);
        Check.due("site 1, not open, gets the least that fits", x.site(1, 4), 5);
        Check.due("site 4", x.site(4, 4), 2);
        Check.due("site 2", x.site(2, 4), 1);
        x.undo();
        x.addSet(30, 50, 10, 0);
        Check.due("of the same power the lower site", x.swap(), 401);
        x.undo();
        x.takeBack(1);
        x.bring(5, 1);
        Check.due("a set of 70 lies in the yard", x.swap(), -5);
    }

    private static void swapGoesByNeed() {
        StormHire x = new StormHire();
        x.addSet(90, 50, 10, 0);
        x.addSet(50, 50, 10, 0);
        x.addSite(1, 10, 0, 9);
        x.addSite(1, 12, 0, 9);
        x.bring(0, 0);
        x.bring(1, 1);
        x.addSet(20, 50, 10, 0);
        x.addSite(9, 95, 0, 9);
        x.addSite(3, 40, 0, 9);
        x.addSite(3, 80, 0, 9);
        Check.due("nobody can help site 2, so site 4", x.swap(), 400);
        Check.due("no set is left for another", x.swap(), -5);
        x.addSet(13, 50, 10, 0);
        Check.due("then site 3", x.swap(), 301);
        Check.due("its set", x.site(3, 4), 1);
    }

    private static void fuelRun() {
        StormHire x = new StormHire();
        Check.due("fuelRun() of nothing", x.fuelRun(), -5);
        x.addSet(10, 100, 10, 0);
        x.addSet(10, 100, 10, 0);
        x.addSet(10, 100, 10, 0);
        x.addSite(1, 5, 0, 50);
        x.addSite(3, 5, 40, 50);
        x.addSite(3, 6, 0, 50);
        x.giveOut();
        x.bring(2, 1);
        Check.due("fuelRun() from an empty depot", x.fuelRun(), -5);
        Check.due("recorded", x.count(15), 5);
        x.buy(250);
        Check.due("fuelRun()", x.fuelRun(), 250);
        Check.due("the site in need", x.set(x.site(2, 4), 4), 100);
        Check.due("then the one of the same rank, not open", x.set(x.site(1, 4), 4), 100);
        Check.due("then the other", x.set(x.site(0, 4), 4), 50);
        Check.due("depot", x.count(3), 0);
        Check.due("undo", x.undo(), 4);
        Check.due("depot", x.count(3), 250);
        Check.due("tanks", x.count(4), 0);
        hoursComeBeforeNeed();
    }

    private static void hoursComeBeforeNeed() {
        StormHire x = new StormHire();
        x.addSet(10, 100, 10, 0);
        x.addSet(10, 100, 30, 0);
        x.buy(98);
        x.fill(1);
        x.undo();
        x.undo();
        x.buy(59);
        x.fill(0);
        x.buy(98);
        x.fill(1);
        x.addSite(9, 5, 0, 50);
        x.addSite(1, 5, 0, 50);
        x.bring(0, 0);
        x.bring(1, 1);
        Check.due("hours left", x.set(0, 9), 5);
        Check.due("hours left", x.set(1, 9), 3);
        x.buy(10);
        Check.due("fuelRun()", x.fuelRun(), 10);
        Check.due("the one with fewer hours is full", x.set(1, 4), 100);
        Check.due("the other gets what is left", x.set(0, 4), 67);
        Check.due("fuelRun() from an empty depot", x.fuelRun(), -5);
        x.buy(1);
        Check.due("fuelRun() of a single litre, beside a full tank", x.fuelRun(), 1);
        Check.due("recorded once", x.undo(), 4);
        Check.due("depot", x.count(3), 1);
    }

    private static void fuelRunIsLimited() {
        StormHire x = new StormHire();
        x.addSet(10, 500, 10, 0);
        x.addSet(10, 200, 10, 0);
        x.addSet(10, 200, 10, 0);
        x.addSite(1, 5, 0, 50);
        x.addSite(5, 5, 0, 50);
        x.buy(1000);
        x.bring(1, 1);
        x.bring(0, 0);
        Check.due("fuelRun()", x.fuelRun(), 300);
        Check.due("depot", x.count(3), 700);
        Check.due("full", x.set(1, 4), 200);
        Check.due("the rest", x.set(0, 4), 100);
        Check.due("not in the yard", x.set(2, 4), 0);
        Check.due("fuelRun()", x.fuelRun(), 300);
        Check.due("fuelRun(), the rest comes back", x.fuelRun(), 100);
        Check.due("depot", x.count(3), 300);
        Check.due("all are full", x.fuelRun(), -5);
        Check.due("nothing is burnt", x.count(5), 0);
        Check.due("filled by hand", x.fill(2), 200);
    }

    private static void pass() {
        StormHire x = new StormHire();
        Check.due("pass(0)", x.pass(0), -2);
        Check.due("pass(-1)", x.pass(-1), -2);
        Check.due("pass(25)", x.pass(25), -2);
        Check.due("pass(MIN)", x.pass(Integer.MIN_VALUE), -2);
        Check.due("nothing recorded", x.count(15), 0);
        Check.due("pass(24)", x.pass(24), 0);
        Check.due("it is an act", x.count(15), 1);
        for (int i = 0; i < 40; i++) {
            x.pass(24);
        }
        Check.due("hour", x.count(0), 984);
        Check.due("pass(16)", x.pass(16), -4);
        Check.due("bad before not possible", x.pass(25), -2);
        Check.due("hour", x.count(0), 984);
        x.addSite(1, 5, 0, 999);
        Check.fullSet(x, 10, 200, 10, 0);
        x.giveOut();
        Check.due("pass(15)", x.pass(15), 15);
        Check.due("hour", x.count(0), 999);
        Check.due("pass(1)", x.pass(1), -4);
        Check.due("the set is in the yard", x.set(0, 5), -5);
        x.undo();
        Check.due("hour", x.count(0), 984);
    }

    private static void passStarts() {
        StormHire x = new StormHire();
        x.addSet(50, 30, 10, -5);
        x.buy(28);
        x.fill(0);
        x.addSite(4, 20, 1, 20);
        x.bring(0, 0);
        Check.due("pass(1) before it opens", x.pass(1), 0);
        Check.due("not started", x.set(0, 6), 0);
        Check.due("no hour of it", x.site(0, 5) + x.site(0, 6), 0);
        Check.due("pass(1)", x.pass(1), 1);
        Check.due("runs", x.set(0, 6), 1);
        Check.due("fuel", x.set(0, 4), 18);
        x.weather(-30);
        Check.due("one that runs is not started again", x.pass(1), 1);
        Check.due("fuel", x.set(0, 4), 8);
        Check.due("runs no more, as 8 is less than 10", x.set(0, 6), 0);
        Check.due("pass(2)", x.pass(2), 0);
        Check.due("the cause", x.site(0, 8), 2);
        Check.due("dark hours", x.site(0, 6), 2);
        Check.due("failed starts", x.count(14), 2);
        Check.due("a start without fuel does not warm", x.set(0, 7), 0);
        Check.due("bill", x.site(0, 7), 2 * 50 * 10);
        Check.due("hours run", x.set(0, 8), 2);
        x.takeBack(0);
        x.pass(1);
        Check.due("without a set", x.site(0, 8), 1);
        Check.due("this is no start", x.count(14), 2);
        Check.due("burnt", x.count(5), 20);
        exactFuel();
    }

    private static void exactFuel() {
        StormHire x = new StormHire();
        x.addSet(50, 30, 10, -5);
        x.buy(20);
        x.fill(0);
        x.addSite(4, 20, 0, 20);
        x.addSite(4, 20, 0, 20);
        x.giveOut();
        Check.due("pass(1)", x.pass(1), 1);
        Check.due("as much as its burn is enough", x.set(0, 6), 1);
        Check.due("pass(1)", x.pass(1), 1);
        Check.due("empty", x.set(0, 6), 0);
        Check.due("lit", x.count(11), 2);
        Check.due("dark", x.count(12), 2);
    }

    private static void passWarms() {
        StormHire x = new StormHire();
        Check.fullSet(x, 50, 100, 10, 10);
        x.addSite(4, 20, 0, 40);
        x.giveOut();
        x.weather(10);
        Check.due("at its limit", x.why(0), 0);
        x.weather(-5);
        Check.due("15 below: three starts fail", x.pass(3), 0);
        Check.due("warmth", x.set(0, 7), 3);
        Check.due("15 is not more than 15", x.why(0), 0);
        x.weather(-6);
        Check.due("16 is", x.why(0), 3);
        Check.due("pass(2)", x.pass(2), 1);
        Check.due("warmth", x.set(0, 7), 4);
        Check.due("causes", x.site(0, 8), 3);
        Check.due("failed starts", x.count(14), 4);
        Check.due("pass(9) to the end of the tank", x.pass(9), 9);
        Check.due("empty", x.set(0, 6), 0);
        Check.due("its warmth stays", x.set(0, 7), 4);
        x.pass(1);
        Check.due("no fuel comes before the cold", x.site(0, 8), 2);
        Check.due("warmth", x.set(0, 7), 4);
        x.fuelRun();
        Check.due("still warm", x.why(0), 0);
        x.takeBack(0);
        x.bring(0, 0);
        Check.due("cold again", x.why(0), 3);
        x.weather(9);
        Check.due("one degree below, cold set", x.why(0), 3);
        x.pass(1);
        Check.due("one degree below, warmed", x.why(0), 0);
    }

    private static void passEndsSites() {
        StormHire x = new StormHire();
        Check.fullSet(x, 50, 100, 10, 10);
        Check.fullSet(x, 60, 100, 10, -30);
        x.addSite(4, 20, 0, 2);
        x.addSite(5, 55, 0, 3);
        x.giveOut();
        Check.due("pass(1)", x.pass(1), 1);
        Check.due("warm", x.set(0, 7), 1);
        Check.due("pass(1)", x.pass(1), 2);
        Check.due("it is over", x.site(0, 4), -5);
        Check.due("in the yard", x.set(0, 5), -5);
        Check.due("does not run", x.set(0, 6), 0);
        Check.due("cold", x.set(0, 7), 0);
        Check.due("the other is not over", x.site(1, 4), 1);
        Check.due("and runs", x.set(1, 6), 1);
        Check.due("pass(5)", x.pass(5), 1);
        Check.due("all in the yard", x.count(8), 2);
        Check.due("bills", x.count(13), 10 * (50 + 3 * 60));
        Check.due("undo", x.undo(), 4);
        Check.due("hour", x.count(0), 2);
        Check.due("runs", x.set(1, 6), 1);
    }
}
