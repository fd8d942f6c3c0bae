/** Objects in states that several tests begin with. */
final class Scenes {
    private Scenes() {
    }

    static StormHire fresh() {
        return new StormHire();
    }

    /**
     * Hour 1, 4 degrees, price 7, 810 litres; the history is full, the snapshot is of hour 0, the text is good.
     * Set 0 is warm at site 0, set 1 runs at site 1, set 2 lies empty in the yard; site 2 is open without a set,
     * site 3 is not open yet.
     */
    static StormHire busy() {
        StormHire x = new StormHire();
        x.setPrice(7);
        x.buy(1000);
        x.addSet(80, 100, 20, 10);
        x.addSet(40, 90, 20, -10);
        x.addSet(30, 50, 10, 0);
        x.fill(0);
        x.fill(1);
        x.addSite(2, 25, 0, 20);
        x.addSite(7, 35, 0, 20);
        x.addSite(1, 35, 0, 99);
        x.addSite(9, 70, 30, 40);
        x.keep();
        x.bring(0, 0);
        x.bring(1, 1);
        x.weather(4);
        x.pass(1);
        Check.typeAll(x, "9*79@0-40;1*28@0-9");
        return x;
    }

    /** Ten sets in the yard, twelve sites without sets, 50000 litres; the history is full, there is no snapshot. */
    static StormHire full() {
        StormHire x = new StormHire();
        for (int i = 0; i < 10; i++) {
            x.addSet(10 + i, 20 + i, 2, 0);
            x.buy(5000);
        }
        for (int i = 0; i < 12; i++) {
            x.addSite(1 + i % 9, 8 + i, 0, 20);
        }
        return x;
    }

    /** As full(), but with each set at the site of its number, and fuel in the tanks. */
    static StormHire crowded() {
        StormHire x = full();
        for (int i = 0; i < 10; i++) {
            x.fill(i);
            x.bring(i, i);
        }
        return x;
    }

    /** Nothing but hours has passed. */
    static StormHire atHour(int hour) {
        StormHire x = new StormHire();
        passTo(x, hour);
        return x;
    }

    static void passTo(StormHire x, int hour) {
        while (x.count(0) < hour) {
            if (x.pass(Math.min(24, hour - x.count(0))) < 0) {
                return;
            }
        }
    }

    /** A depot with so many litres, all bought in few calls. */
    static StormHire withLitres(int litres) {
        StormHire x = new StormHire();
        for (int left = litres; left > 0; left -= 5000) {
            x.buy(Math.min(5000, left));
        }
        return x;
    }

    /** The set has just so much fuel and lies in the yard; the depot is empty then. */
    static int setWithFuel(StormHire x, int power, int burn, int limit, int fuel) {
        int set = x.addSet(power, 500, burn, limit);
        if (fuel > 0) {
            x.buy(fuel);
            x.fill(set);
        }
        return set;
    }
}
