import java.util.Arrays;

/** Promises 1 to 6: a new object, buy, weather, setPrice, addSet, fill. */
public final class DepotTest {
    public static void main(String[] args) {
        newObject();
        buy();
        weather();
        setPrice();
        addSet();
        fill();
        Check.end("DepotTest");
    }

    private static void newObject() {
        StormHire x = new StormHire();
        int[] due = {0, 105, 10, 0, 0, 0, 0, 0, 0, 0, 0, 0, 0, 0, 0, 0, 0};
        for (int what = 0; what < due.length; what++) {
            Check.due("new: count(" + what + ")", x.count(what), due[what]);
        }
        Check.due("new: set(0, 0)", x.set(0, 0), -1);
        Check.due("new: site(0, 0)", x.site(0, 0), -1);
        Check.due("new: undo()", x.undo(), -5);
        Check.due("new: restore()", x.restore(), -5);
        StormHire other = new StormHire();
        other.buy(7);
        other.addSet(1, 10, 1, 0);
        Check.due("two objects share nothing", x.count(3) + x.count(7), 0);
    }

    private static void buy() {
        StormHire x = new StormHire();
        Check.due("buy(0)", x.buy(0), -2);
        Check.due("buy(-1)", x.buy(-1), -2);
        Check.due("buy(5001)", x.buy(5001), -2);
        Check.due("buy(MAX)", x.buy(Integer.MAX_VALUE), -2);
        Check.due("buy(MIN)", x.buy(Integer.MIN_VALUE), -2);
        Check.due("nothing recorded", x.count(15), 0);
        Check.due("buy(1)", x.buy(1), 1);
        Check.due("buy(5000)", x.buy(5000), 5001);
        for (int i = 2; i <= 9; i++) {
            Check.due("buy(5000)", x.buy(5000), 5000 * i + 1);
        }
        Check.due("buy over the brim", x.buy(5000), -3);
        Check.due("bad before full", x.buy(5001), -2);
        Check.due("buy to the brim", x.buy(4999), 50000);
        Check.due("buy(1) when full", x.buy(1), -3);
        Check.due("bought", x.count(6), 50000);
        Check.due("history", x.count(15), 5);
        x.undo();
        Check.due("undone", x.count(3), 45001);
        Check.due("bought is undone", x.count(6), 45001);
        x = new StormHire();
        x.buy(100);
        Check.fullSet(x, 5, 50, 5, 0);
        Check.due("bought stays when fuel goes to a tank", x.count(6), 100);
        Check.due("depot", x.count(3), 50);
    }

    private static void weather() {
        StormHire x = new StormHire();
        Check.due("weather(5)", x.weather(5), -5);
        Check.due("weather(-31)", x.weather(-31), -2);
        Check.due("weather(21)", x.weather(21), -2);
        Check.due("weather(MIN)", x.weather(Integer.MIN_VALUE), -2);
        Check.due("nothing recorded", x.count(15), 0);
        Check.due("weather(-30)", x.weather(-30), 35);
        Check.due("told", x.count(1), 70);
        Check.due("weather(-30) again", x.weather(-30), -5);
        Check.due("weather(20)", x.weather(20), 50);
        Check.due("told", x.count(1), 120);
        Check.due("weather(19)", x.weather(19), 1);
        Check.due("recorded", x.count(15), 3);
        Check.due("undo", x.undo(), 2);
        Check.due("told", x.count(1), 120);
    }

    private static void setPrice() {
        StormHire x = new StormHire();
        Check.due("setPrice(10)", x.setPrice(10), -5);
        Check.due("setPrice(0)", x.setPrice(0), -2);
        Check.due("setPrice(100)", x.setPrice(100), -2);
        Check.due("setPrice(-7)", x.setPrice(-7), -2);
        Check.due("nothing recorded", x.count(15), 0);
        Check.due("setPrice(1)", x.setPrice(1), 10);
        Check.due("setPrice(99)", x.setPrice(99), 1);
        Check.due("setPrice(99) again", x.setPrice(99), -5);
        Check.due("told", x.count(2), 99);
        Check.due("undo", x.undo(), 1);
        Check.due("told", x.count(2), 1);
        x = new StormHire();
        Check.fullSet(x, 7, 50, 5, 0);
        x.addSite(1, 5, 0, 9);
        x.giveOut();
        x.pass(2);
        x.setPrice(3);
        x.pass(1);
        Check.due("each hour has its own price", x.site(0, 7), 7 * 10 * 2 + 7 * 3);
    }

    private static void addSet() {
        StormHire x = new StormHire();
        int[][] bad = {{0, 10, 1, 0}, {100, 10, 1, 0}, {1, 9, 1, 0}, {1, 501, 1, 0}, {1, 10, 0, 0}, {1, 500, 51, 0},
            {1, 10, 11, 0}, {1, 10, 1, -31}, {1, 10, 1, 11}, {-1, -1, -1, -99}, {1, 49, 50, 0}};
        for (int[] row : bad) {
            Check.due("addSet" + Arrays.toString(row), x.addSet(row[0], row[1], row[2], row[3]), -2);
        }
        Check.due("nothing recorded", x.count(15), 0);
        int[][] good = {{1, 10, 1, -30}, {99, 500, 50, 10}, {50, 10, 10, 0}, {2, 50, 50, -5}};
        for (int i = 0; i < good.length; i++) {
            int[] row = good[i];
            Check.due("addSet" + Arrays.toString(row), x.addSet(row[0], row[1], row[2], row[3]), i);
            int[] due = {row[0], row[1], row[2], row[3], 0, -5, 0, 0, 0, 0};
            for (int what = 0; what < due.length; what++) {
                Check.due("set(" + i + ", " + what + ")", x.set(i, what), due[what]);
            }
        }
        for (int i = 4; i < 10; i++) {
            Check.due("addSet", x.addSet(1, 10, 1, 0), i);
        }
        Check.due("addSet, the eleventh", x.addSet(1, 10, 1, 0), -3);
        Check.due("bad before full", x.addSet(0, 10, 1, 0), -2);
        Check.due("sets", x.count(7), 10);
        Check.due("in the yard", x.count(8), 10);
        Check.due("undo", x.undo(), 4);
        Check.due("sets", x.count(7), 9);
        Check.due("no such set", x.set(9, 0), -1);
        Check.due("addSet in the place that was", x.addSet(33, 44, 5, 6), 9);
        Check.due("its power", x.set(9, 0), 33);
        reusedRowIsNew();
    }

    private static void reusedRowIsNew() {
        StormHire x = new StormHire();
        x.keep();
        Check.fullSet(x, 9, 60, 5, 10);
        x.addSite(3, 5, 0, 5);
        x.giveOut();
        x.pass(1);
        x.weather(10);
        x.pass(1);
        x.restore();
        Check.due("addSet", x.addSet(1, 10, 1, 0), 0);
        for (int what = 4; what <= 9; what++) {
            Check.due("a new set(0, " + what + ")", x.set(0, what), what == 5 ? -5 : 0);
        }
        Check.due("addSite", x.addSite(1, 1, 0, 1), 0);
        for (int what = 4; what <= 8; what++) {
            Check.due("a new site(0, " + what + ")", x.site(0, what), what == 4 || what == 8 ? -5 : 0);
        }
    }

    private static void fill() {
        StormHire x = new StormHire();
        Check.due("fill(0) without sets", x.fill(0), -1);
        x.addSet(10, 40, 10, 0);
        x.addSet(10, 50, 10, 0);
        Check.due("fill(-1)", x.fill(-1), -1);
        Check.due("fill(2)", x.fill(2), -1);
        Check.due("fill(MAX)", x.fill(Integer.MAX_VALUE), -1);
        Check.due("fill(0) from an empty depot", x.fill(0), -5);
        Check.due("recorded", x.count(15), 2);
        x.buy(55);
        Check.due("fill(0)", x.fill(0), 40);
        Check.due("fill(0) when full", x.fill(0), -5);
        Check.due("fill(1) as far as there is fuel", x.fill(1), 15);
        Check.due("its fuel", x.set(1, 4), 15);
        Check.due("depot", x.count(3), 0);
        Check.due("in tanks", x.count(4), 55);
        Check.due("recorded", x.count(15), 5);
        x.buy(100);
        x.addSite(1, 10, 0, 5);
        x.bring(1, 0);
        Check.due("fill(1) at a site", x.fill(1), -4);
        x.takeBack(0);
        Check.due("fill(1) in the yard again", x.fill(1), 35);
        Check.due("undo", x.undo(), 4);
        Check.due("its fuel", x.set(1, 4), 15);
        Check.due("depot", x.count(3), 100);
        x.bring(0, 0);
        Check.due("not possible before nothing to fill", x.fill(0), -4);
        x = new StormHire();
        x.addSet(10, 40, 1, 0);
        x.buy(1);
        Check.due("a single litre", x.fill(0), 1);
        Check.due("hours left with a burn of 1", x.set(0, 9), 1);
    }
}
