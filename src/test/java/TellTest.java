import java.util.Arrays;

/** Promises 20 to 26: set, site, why, needy, thirsty, forecast, count. */
public final class TellTest {
    public static void main(String[] args) {
        set();
        site();
        why();
        needy();
        thirsty();
        forecast();
        forecastErrors();
        forecastDarkest();
        count();
        fullHouse();
        undoneBesideOthers();
        Check.end("TellTest");
    }

    private static void set() {
        StormHire x = new StormHire();
        Check.due("set(0, 0)", x.set(0, 0), -1);
        x.addSet(44, 33, 7, -5);
        x.addSet(43, 32, 6, -1);
        Check.due("a limit that looks like NONE", x.set(0, 3), -5);
        Check.due("a limit that looks like UNKNOWN", x.set(1, 3), -1);
        x.buy(100);
        x.fill(0);
        x.addSite(1, 1, 0, 3);
        x.addSite(1, 1, 0, 9);
        x.bring(0, 1);
        x.pass(1);
        int[] due = {44, 33, 7, -5, 26, 1, 1, 0, 1, 3};
        for (int what = 0; what < due.length; what++) {
            Check.due("set(0, " + what + ")", x.set(0, what), due[what]);
        }
        Check.due("set(0, -1)", x.set(0, -1), -2);
        Check.due("set(0, 10)", x.set(0, 10), -2);
        Check.due("set(0, MIN)", x.set(0, Integer.MIN_VALUE), -2);
        Check.due("set(-1, 0)", x.set(-1, 0), -1);
        Check.due("set(2, 0)", x.set(2, 0), -1);
        Check.due("unknown before bad", x.set(2, 10), -1);
        x.takeBack(1);
        x.bring(0, 0);
        x.pass(1);
        Check.due("hours at all sites together", x.set(0, 8), 2);
        x.pass(1);
        x.bring(0, 1);
        x.pass(5);
        Check.due("no hour is counted when it does not run", x.set(0, 8), 4);
    }

    private static void site() {
        StormHire x = new StormHire();
        Check.due("site(0, 0)", x.site(0, 0), -1);
        Check.fullSet(x, 44, 30, 10, -5);
        x.addSite(8, 40, 2, 9);
        Check.due("not open yet", x.site(0, 9), 0);
        x.pass(2);
        Check.due("open in its first hour", x.site(0, 9), 1);
        x.bring(0, 0);
        x.setPrice(7);
        x.pass(4);
        int[] due = {8, 40, 2, 9, 0, 3, 1, 3 * 44 * 7, 2, 1};
        for (int what = 0; what < due.length; what++) {
            Check.due("site(0, " + what + ")", x.site(0, what), due[what]);
        }
        Check.due("site(0, -1)", x.site(0, -1), -2);
        Check.due("site(0, 10)", x.site(0, 10), -2);
        Check.due("site(0, MAX)", x.site(0, Integer.MAX_VALUE), -2);
        Check.due("site(-1, 0)", x.site(-1, 0), -1);
        Check.due("site(1, 0)", x.site(1, 0), -1);
        Check.due("unknown before bad", x.site(1, 10), -1);
        x.fuelRun();
        x.pass(2);
        Check.due("the cause of the latest dark hour stays", x.site(0, 8), 2);
        Check.due("open in its last hour", x.site(0, 9), 1);
        x.pass(1);
        Check.due("over", x.site(0, 9), 0);
        Check.due("no set", x.site(0, 4), -5);
        x.pass(5);
        Check.due("no hours are counted then", x.site(0, 5) + x.site(0, 6), 7);
    }

    private static void why() {
        StormHire x = new StormHire();
        Check.due("why(0)", x.why(0), -1);
        Check.due("why(-1)", x.why(-1), -1);
        x.addSet(44, 30, 10, 5);
        x.addSite(8, 40, 1, 3);
        Check.due("why(1)", x.why(1), -1);
        Check.due("not open yet", x.why(0), -5);
        x.pass(1);
        Check.due("no set", x.why(0), 1);
        x.bring(0, 0);
        Check.due("no fuel", x.why(0), 2);
        x.weather(4);
        Check.due("no fuel comes before the cold", x.why(0), 2);
        x.buy(9);
        x.fuelRun();
        Check.due("too little fuel", x.why(0), 2);
        x.buy(1);
        x.fuelRun();
        Check.due("too cold", x.why(0), 3);
        Check.due("why() changes nothing", x.set(0, 7), 0);
        Check.due("it starts nothing", x.count(14), 0);
        x.weather(5);
        Check.due("lit", x.why(0), 0);
        x.buy(20);
        x.fuelRun();
        x.pass(1);
        x.weather(-30);
        Check.due("it runs", x.why(0), 0);
        x.pass(1);
        Check.due("over", x.why(0), -5);
    }

    private static void needy() {
        StormHire x = new StormHire();
        Check.due("needy(0)", x.needy(0), -5);
        Check.due("needy(-1)", x.needy(-1), -2);
        Check.due("needy(MIN)", x.needy(Integer.MIN_VALUE), -2);
        int[][] sites = {{5, 10}, {5, 20}, {1, 99}, {9, 1}, {5, 20}, {9, 2}, {5, 9}};
        for (int[] row : sites) {
            x.addSite(row[0], row[1], 0, 5);
        }
        x.addSite(9, 99, 1, 5);
        x.addSet(50, 10, 1, 0);
        x.bring(0, 3);
        int[] due = {5, 3, 1, 4, 0, 6, 2, -5};
        for (int place = 0; place < due.length; place++) {
            Check.due("needy(" + place + ")", x.needy(place), due[place]);
        }
        Check.due("needy(12)", x.needy(12), -5);
        Check.due("needy(MAX)", x.needy(Integer.MAX_VALUE), -5);
        x.pass(1);
        Check.due("then it is open", x.needy(0), 7);
        x.pass(4);
        Check.due("all are over", x.needy(0), -5);
        for (int i = 8; i < 12; i++) {
            x.addSite(1, i, 0, 20);
        }
        Check.due("rank, then load", x.needy(0), 11);
        Check.due("the last of these", x.needy(3), 8);
        Check.due("no more", x.needy(4), -5);
    }

    private static void thirsty() {
        StormHire x = new StormHire();
        Check.due("thirsty(0)", x.thirsty(0), -5);
        Check.due("thirsty(-1)", x.thirsty(-1), -2);
        int[] burns = {10, 50, 10, 11, 10};
        for (int burn : burns) {
            Check.fullSet(x, 50, 100, burn, 0);
        }
        x.addSet(50, 100, 10, 0);
        x.addSite(1, 10, 0, 5);
        x.addSite(1, 10, 0, 5);
        x.addSite(2, 10, 7, 9);
        x.addSite(9, 10, 0, 5);
        x.addSite(1, 20, 0, 5);
        x.addSite(9, 50, 0, 5);
        for (int i = 0; i < 5; i++) {
            x.bring(i, i);
        }
        int[] due = {1, 3, 2, 4, 0, -5};
        for (int place = 0; place < due.length; place++) {
            Check.due("thirsty(" + place + ")", x.thirsty(place), due[place]);
        }
        x.bring(5, 5);
        Check.due("an empty tank", x.thirsty(0), 5);
        Check.due("then the others", x.thirsty(1), 1);
        Check.due("thirsty(6)", x.thirsty(6), -5);
        Check.due("thirsty(MAX)", x.thirsty(Integer.MAX_VALUE), -5);
        Check.due("thirsty(MIN)", x.thirsty(Integer.MIN_VALUE), -2);
    }

    private static StormHire stormy() {
        StormHire x = new StormHire();
        Check.fullSet(x, 50, 100, 30, 5);
        Check.fullSet(x, 60, 500, 20, 10);
        x.addSite(5, 45, 0, 10);
        x.addSite(6, 55, 2, 8);
        x.addSite(1, 99, 7, 30);
        x.bring(0, 0);
        x.bring(1, 1);
        x.weather(4);
        return x;
    }

    private static void forecast() {
        StormHire x = stormy();
        int[] before = Check.everything(x);
        int[][] due = {{1, 0, 1, 0, 0}, {2, 1, 1, 30, 0}, {5, 4, 4, 110, 0}, {9, 7, 10, 170, 0},
            {10, 7, 12, 170, 0}, {24, 7, 26, 170, 2}};
        for (int[] row : due) {
            for (int what = 0; what <= 3; what++) {
                Check.due("forecast(" + row[0] + ", " + what + ")", x.forecast(row[0], what), row[what + 1]);
            }
        }
        Check.holds("a forecast changes nothing", Arrays.equals(before, Check.everything(x)));
        x.pass(9);
        Check.due("it comes so: lit", x.count(11), 7);
        Check.due("it comes so: dark", x.count(12), 10);
        Check.due("it comes so: burnt", x.count(5), 170);
        Check.due("the history is free of it", x.undo(), 4);
        x.pass(3);
        Check.due("what was burnt before is not counted", x.forecast(1, 2), 30);
        x.undo();
        x.keep();
        x.forecast(24, 0);
        x.restore();
        Check.due("the snapshot is free of it", x.count(0), 0);
    }

    private static void forecastErrors() {
        StormHire x = stormy();
        Check.due("forecast(0, 0)", x.forecast(0, 0), -2);
        Check.due("forecast(25, 0)", x.forecast(25, 0), -2);
        Check.due("forecast(1, -1)", x.forecast(1, -1), -2);
        Check.due("forecast(1, 4)", x.forecast(1, 4), -2);
        Check.due("forecast(MAX, 0)", x.forecast(Integer.MAX_VALUE, 0), -2);
        for (int i = 0; i < 41; i++) {
            x.pass(24);
        }
        Check.due("to the last hour", x.forecast(15, 0), 0);
        Check.due("beyond it", x.forecast(16, 0), -4);
        Check.due("bad before not possible", x.forecast(16, 4), -2);
        Check.due("bad before not possible", x.forecast(25, 0), -2);
    }

    private static void forecastDarkest() {
        StormHire x = new StormHire();
        Check.due("no sites", x.forecast(24, 3), -5);
        x.addSite(1, 10, 0, 20);
        x.addSite(9, 10, 2, 6);
        x.addSite(9, 10, 2, 6);
        x.pass(2);
        Check.due("of several the lowest", x.forecast(4, 3), 0);
        Check.due("with the most", x.forecast(9, 3), 0);
        Check.fullSet(x, 50, 500, 1, 0);
        x.bring(0, 0);
        Check.due("only hours among these are counted", x.forecast(3, 3), 1);
        x.pass(4);
        Check.due("none would be dark", x.forecast(5, 3), -5);
        Check.due("none would be dark", x.forecast(5, 1), 0);
    }

    private static void count() {
        StormHire x = stormy();
        x.addSet(1, 10, 1, 0);
        x.setPrice(3);
        x.pass(9);
        Check.typeAll(x, "ab");
        int[] due = {9, 104, 3, 4400, 430, 170, 5000, 3, 2, 3, 2, 7, 10, 3 * (3 * 50 + 4 * 60), 8, 5, 2};
        for (int what = 0; what < due.length; what++) {
            Check.due("count(" + what + ")", x.count(what), due[what]);
        }
        Check.due("count(-1)", x.count(-1), -2);
        Check.due("count(17)", x.count(17), -2);
        Check.due("count(MAX)", x.count(Integer.MAX_VALUE), -2);
        Check.due("count(MIN)", x.count(Integer.MIN_VALUE), -2);
    }

    /** Ten sets and twelve sites, so that each loop runs to the very end of its rows. */
    private static void fullHouse() {
        StormHire x = new StormHire();
        for (int i = 0; i < 10; i++) {
            Check.fullSet(x, 10 + i, 20 + i, 1, 0);
        }
        for (int i = 0; i < 12; i++) {
            x.addSite(1 + i % 9, 10 + i, 0, 20);
        }
        Check.due("giveOut()", x.giveOut(), 10);
        Check.due("the yard is empty", x.count(8), 0);
        Check.due("litres in all tanks", x.count(4), 245);
        Check.due("the last in need", x.needy(11), 0);
        Check.due("open", x.count(10), 12);
        Check.due("thirsty(9)", x.thirsty(9), x.set(9, 5));
        Check.due("thirsty(10)", x.thirsty(10), -5);
        Check.due("swap()", x.swap(), -5);
        Check.due("pass(1)", x.pass(1), 10);
        Check.due("the hours left play no part in need", x.needy(0), 8);
        Check.due("forecast(1, 2)", x.forecast(1, 2), 10);
        Check.due("fuelRun()", x.fuelRun(), 10);
        Check.due("pass(19)", x.pass(19), 190);
        Check.due("all in the yard", x.count(8), 10);
        Check.due("lit", x.count(11), 200);
        Check.due("dark", x.count(12), 40);
        Check.due("bills", x.count(13), 200 * 145);
    }

    /** What was added in place of something else that is undone or restored. */
    private static void undoneBesideOthers() {
        StormHire x = new StormHire();
        x.addSet(11, 22, 3, 4);
        x.addSite(5, 6, 7, 8);
        x.keep();
        x.undo();
        x.undo();
        x.addSet(99, 88, 7, -6);
        x.addSite(1, 2, 3, 4);
        x.restore();
        int[] set = {11, 22, 3, 4};
        int[] site = {5, 6, 7, 8};
        for (int what = 0; what < 4; what++) {
            Check.due("restored: set(0, " + what + ")", x.set(0, what), set[what]);
            Check.due("restored: site(0, " + what + ")", x.site(0, what), site[what]);
        }
    }
}
