import java.util.Random;

/** Runs of 512 calls, the same on StormHire and on PlainStorm, which must answer alike; always the same runs. */
public final class RandomTest {
    private static final int RUNS = 400;
    private static final String SIGNS = "0123456789*@-;";

    private final Random random;
    private final StormHire x = new StormHire();
    private final PlainStorm y = new PlainStorm();
    /** How far the hours of new sites lie: some runs are of short sites, some of long ones. */
    private final int span;
    private String pending = "";

    private RandomTest(int seed) {
        random = new Random(seed);
        span = 1 + random.nextInt(seed % 3 == 0 ? 400 : 60);
    }

    public static void main(String[] args) {
        for (int seed = 0; seed < RUNS; seed++) {
            RandomTest run = new RandomTest(seed);
            for (int call = 0; call < 512; call++) {
                run.step("run " + seed + ", call " + call + ": ");
            }
        }
        Check.end("RandomTest");
    }

    private int pick(int low, int high) {
        return low + random.nextInt(high - low + 1);
    }

    /** Mostly a number of the range, now and then one at its edge or beyond it. */
    private int near(int low, int high) {
        int kind = random.nextInt(40);
        switch (kind) {
            case 0: return low - 1;
            case 1: return high + 1;
            case 2: return low;
            case 3: return high;
            case 4: return random.nextInt(20) == 0 ? random.nextInt() : pick(low, high);
            default: return pick(low, high);
        }
    }

    private void step(String at) {
        int kind = random.nextInt(100);
        if (kind < 46) {
            depotAndSites(at, kind);
        } else if (kind < 60) {
            texts(at, kind);
        } else if (kind < 67) {
            history(at, kind);
        } else {
            told(at, kind);
        }
    }

    private void depotAndSites(String at, int kind) {
        int a = near(0, Math.max(0, x.count(7) - 1));
        int b = near(0, Math.max(0, x.count(9) - 1));
        if (kind < 2) {
            int litres = random.nextInt(3) == 0 ? near(1, 5000) : near(1, 200);
            Check.due(at + "buy(" + litres + ")", x.buy(litres), y.buy(litres));
        } else if (kind < 5) {
            int degrees = near(-30, 20);
            Check.due(at + "weather(" + degrees + ")", x.weather(degrees), y.weather(degrees));
        } else if (kind < 6) {
            int price = near(1, 99);
            Check.due(at + "setPrice(" + price + ")", x.setPrice(price), y.setPrice(price));
        } else if (kind < 9) {
            int power = random.nextBoolean() ? near(1, 99) : 10 * pick(1, 9);
            int tank = near(10, random.nextBoolean() ? 60 : 500);
            int burn = near(1, random.nextBoolean() ? 10 : 50);
            int limit = near(-30, 10);
            Check.due(at + "addSet(" + power + ", " + tank + ", " + burn + ", " + limit + ")",
                x.addSet(power, tank, burn, limit), y.addSet(power, tank, burn, limit));
        } else if (kind < 15) {
            Check.due(at + "fill(" + a + ")", x.fill(a), y.fill(a));
        } else if (kind < 18) {
            int rank = near(1, 9);
            int load = random.nextBoolean() ? near(1, 99) : 10 * pick(1, 9);
            int from = Math.max(-1, Math.min(999, x.count(0) + near(-10, span / 2)));
            int until = random.nextInt(20) == 0 ? near(0, 999) : from + near(1, span);
            Check.due(at + "addSite(" + rank + ", " + load + ", " + from + ", " + until + ")",
                x.addSite(rank, load, from, until), y.addSite(rank, load, from, until));
        } else if (kind < 24) {
            Check.due(at + "bring(" + a + ", " + b + ")", x.bring(a, b), y.bring(a, b));
        } else if (kind < 27) {
            Check.due(at + "takeBack(" + b + ")", x.takeBack(b), y.takeBack(b));
        } else if (kind < 30) {
            Check.due(at + "giveOut()", x.giveOut(), y.giveOut());
        } else if (kind < 34) {
            Check.due(at + "swap()", x.swap(), y.swap());
        } else if (kind < 38) {
            Check.due(at + "fuelRun()", x.fuelRun(), y.fuelRun());
        } else {
            int hours = random.nextInt(4) == 0 ? near(1, 24) : near(1, 3);
            Check.due(at + "pass(" + hours + ")", x.pass(hours), y.pass(hours));
        }
    }

    private void texts(String at, int kind) {
        if (kind < 56) {
            if (pending.isEmpty()) {
                pending = newText();
                Check.due(at + "clearText()", x.clearText(), y.clearText());
            }
            for (int i = 0; i < pending.length(); i++) {
                char sign = pending.charAt(i);
                Check.due(at + "type(" + sign + ")", x.type(sign), y.type(sign));
            }
            pending = "";
        } else if (kind == 56) {
            Check.due(at + "clearText()", x.clearText(), y.clearText());
        }
        Check.due(at + "readSites()", x.readSites(), y.readSites());
    }

    private String newText() {
        StringBuilder made = new StringBuilder();
        int sites = pick(1, random.nextInt(10) == 0 ? 7 : 2);
        for (int i = 0; i < sites; i++) {
            int from = Math.max(0, Math.min(999, x.count(0) + pick(-5, span / 2)));
            made.append(i == 0 ? "" : ";").append(pick(1, 9)).append('*').append(pick(1, 99)).append('@')
                .append(from).append('-').append(Math.min(999, from + pick(random.nextInt(9) == 0 ? 0 : 1, span)));
        }
        int at = random.nextInt(made.length());
        switch (random.nextInt(6)) {
            case 0: made.setCharAt(at, SIGNS.charAt(random.nextInt(SIGNS.length()))); break;
            case 1: made.deleteCharAt(at); break;
            case 2: made.insert(at, SIGNS.charAt(random.nextInt(SIGNS.length()))); break;
            case 3: made.setLength(at); break;
            default: break;
        }
        if (random.nextInt(12) == 0) {
            made.append((char) random.nextInt(65536));
        }
        return made.toString();
    }

    private void history(String at, int kind) {
        if (kind < 64) {
            Check.due(at + "undo()", x.undo(), y.undo());
        } else if (kind < 65) {
            Check.due(at + "keep()", x.keep(), y.keep());
        } else if (random.nextInt(3) == 0) {
            Check.due(at + "restore()", x.restore(), y.restore());
        }
    }

    private void told(String at, int kind) {
        int a = near(0, 12);
        int what = near(0, 9);
        int counted = near(0, 16);
        int hours = near(1, 24);
        Check.due(at + "set(" + a + ", " + what + ")", x.set(a, what), y.set(a, what));
        Check.due(at + "site(" + a + ", " + what + ")", x.site(a, what), y.site(a, what));
        Check.due(at + "why(" + a + ")", x.why(a), y.why(a));
        Check.due(at + "needy(" + a + ")", x.needy(a), y.needy(a));
        Check.due(at + "thirsty(" + a + ")", x.thirsty(a), y.thirsty(a));
        Check.due(at + "forecast(" + hours + ", " + (what - 2) / 2 + ")", x.forecast(hours, (what - 2) / 2),
            y.forecast(hours, (what - 2) / 2));
        Check.due(at + "count(" + counted + ")", x.count(counted), y.count(counted));
        if (kind == 99) {
            everything(at);
        }
    }

    private void everything(String at) {
        for (int i = 0; i <= 16; i++) {
            Check.due(at + "count(" + i + ")", x.count(i), y.count(i));
        }
        for (int number = 0; number < 12; number++) {
            for (int i = 0; i <= 9; i++) {
                Check.due(at + "set(" + number + ", " + i + ")", x.set(number, i), y.set(number, i));
                Check.due(at + "site(" + number + ", " + i + ")", x.site(number, i), y.site(number, i));
            }
        }
    }
}
