import java.util.Random;

/** Runs of up to 512 calls, the same on StormHire and on PlainStorm, which must answer alike; always the same runs. */
public final class RandomTest {
    private static final int RUNS = 6000;
    /** What an object answers after 512 calls is free. */
    private static final int MOST_CALLS = 512;
    private static final int MOST_OF_ONE_STEP = 100;
    private static final int ALL_THAT_IS_TOLD = 17 + 12 * 20;
    private static final String SIGNS = "0123456789*@-;";

    private final Random random;
    private final StormHire x = new StormHire();
    private final PlainStorm y = new PlainStorm();
    /** How far the hours of new sites lie: some runs are of short sites, some of long ones. */
    private final int span;
    private int calls = 0;

    private RandomTest(int seed) {
        random = new Random(seed);
        span = 1 + random.nextInt(seed % 3 == 0 ? 400 : 60);
    }

    public static void main(String[] args) {
        for (int seed = 0; seed < RUNS; seed++) {
            RandomTest run = new RandomTest(seed);
            boolean allAtTheEnd = seed % 2 == 0;
            int most = MOST_CALLS - MOST_OF_ONE_STEP - (allAtTheEnd ? ALL_THAT_IS_TOLD : 0);
            while (run.calls <= most) {
                run.step("run " + seed + ", call " + run.calls + ": ");
            }
            if (allAtTheEnd) {
                run.everything("run " + seed + ", at its end: ");
            }
        }
        Check.end("RandomTest");
    }

    private void due(String call, int got, int want) {
        calls++;
        Check.due(call, got, want);
    }

    /** Asked of the other one, so that it is no call of the first. */
    private int count(int what) {
        return y.count(what);
    }

    private int pick(int low, int high) {
        return low + random.nextInt(high - low + 1);
    }

    /** Mostly a number of the range, now and then one at its edge or beyond it. */
    private int near(int low, int high) {
        int kind = random.nextInt(40);
        switch (kind) {
            case 0: return low - 1;
            case 1: return high + 1;
            case 2: return low;
            case 3: return high;
            case 4: return random.nextInt(20) == 0 ? random.nextInt() : pick(low, high);
            default: return pick(low, high);
        }
    }

    private void step(String at) {
        int kind = random.nextInt(100);
        if (kind < 46) {
            depotAndSites(at, kind);
        } else if (kind < 49) {
            texts(at);
        } else if (kind < 56) {
            history(at);
        } else {
            told(at);
        }
    }

    private void depotAndSites(String at, int kind) {
        int a = near(0, Math.max(0, count(7) - 1));
        int b = near(0, Math.max(0, count(9) - 1));
        if (kind < 2) {
            int litres = random.nextInt(3) == 0 ? near(1, 5000) : near(1, 200);
            due(at + "buy(" + litres + ")", x.buy(litres), y.buy(litres));
        } else if (kind < 5) {
            int degrees = near(-30, 20);
            due(at + "weather(" + degrees + ")", x.weather(degrees), y.weather(degrees));
        } else if (kind < 6) {
            int price = near(1, 99);
            due(at + "setPrice(" + price + ")", x.setPrice(price), y.setPrice(price));
        } else if (kind < 9) {
            int power = random.nextBoolean() ? near(1, 99) : 10 * pick(1, 9);
            int tank = near(10, random.nextBoolean() ? 60 : 500);
            int burn = near(1, random.nextBoolean() ? 10 : 50);
            int limit = near(-30, 10);
            due(at + "addSet(" + power + ", " + tank + ", " + burn + ", " + limit + ")",
                x.addSet(power, tank, burn, limit), y.addSet(power, tank, burn, limit));
        } else if (kind < 15) {
            due(at + "fill(" + a + ")", x.fill(a), y.fill(a));
        } else if (kind < 18) {
            int rank = near(1, 9);
            int load = random.nextBoolean() ? near(1, 99) : 10 * pick(1, 9);
            int from = Math.max(-1, Math.min(999, count(0) + near(-10, span / 2)));
            int until = random.nextInt(20) == 0 ? near(0, 999) : from + near(1, span);
            due(at + "addSite(" + rank + ", " + load + ", " + from + ", " + until + ")",
                x.addSite(rank, load, from, until), y.addSite(rank, load, from, until));
        } else if (kind < 24) {
            due(at + "bring(" + a + ", " + b + ")", x.bring(a, b), y.bring(a, b));
        } else if (kind < 27) {
            due(at + "takeBack(" + b + ")", x.takeBack(b), y.takeBack(b));
        } else if (kind < 30) {
            due(at + "giveOut()", x.giveOut(), y.giveOut());
        } else if (kind < 34) {
            due(at + "swap()", x.swap(), y.swap());
        } else if (kind < 38) {
            due(at + "fuelRun()", x.fuelRun(), y.fuelRun());
        } else {
            int hours = random.nextInt(4) == 0 ? near(1, 24) : near(1, 3);
            due(at + "pass(" + hours + ")", x.pass(hours), y.pass(hours));
        }
    }

    private void texts(String at) {
        if (random.nextInt(3) > 0) {
            due(at + "clearText()", x.clearText(), y.clearText());
            for (char sign : newText().toCharArray()) {
                due(at + "type(" + sign + ")", x.type(sign), y.type(sign));
            }
        }
        due(at + "readSites()", x.readSites(), y.readSites());
    }

    private String newText() {
        StringBuilder made = new StringBuilder();
        int sites = pick(1, random.nextInt(10) == 0 ? 7 : 2);
        for (int i = 0; i < sites; i++) {
            int from = Math.max(0, Math.min(999, count(0) + pick(-5, span / 2)));
            made.append(i == 0 ? "" : ";").append(pick(1, 9)).append('*').append(pick(1, 99)).append('@')
                .append(from).append('-').append(Math.min(999, from + pick(random.nextInt(9) == 0 ? 0 : 1, span)));
        }
        int at = random.nextInt(made.length());
        switch (random.nextInt(6)) {
            case 0: made.setCharAt(at, SIGNS.charAt(random.nextInt(SIGNS.length()))); break;
            case 1: made.deleteCharAt(at); break;
            case 2: made.insert(at, SIGNS.charAt(random.nextInt(SIGNS.length()))); break;
            case 3: made.setLength(at); break;
            default: break;
        }
        if (random.nextInt(12) == 0) {
            made.append((char) random.nextInt(65536));
        }
        return made.toString();
    }

    private void history(String at) {
        int kind = random.nextInt(7);
        if (kind < 4) {
            due(at + "undo()", x.undo(), y.undo());
        } else if (kind < 6) {
            due(at + "keep()", x.keep(), y.keep());
        } else {
            due(at + "restore()", x.restore(), y.restore());
        }
    }

    private void told(String at) {
        int a = near(0, 12);
        int what = near(0, 9);
        switch (random.nextInt(7)) {
            case 0: due(at + "set(" + a + ", " + what + ")", x.set(a, what), y.set(a, what)); break;
            case 1: due(at + "site(" + a + ", " + what + ")", x.site(a, what), y.site(a, what)); break;
            case 2: due(at + "why(" + a + ")", x.why(a), y.why(a)); break;
            case 3: due(at + "needy(" + a + ")", x.needy(a), y.needy(a)); break;
            case 4: due(at + "thirsty(" + a + ")", x.thirsty(a), y.thirsty(a)); break;
            case 5: forecast(at, near(1, 24), near(0, 3)); break;
            default: counted(at, near(0, 16)); break;
        }
    }

    private void forecast(String at, int hours, int what) {
        due(at + "forecast(" + hours + ", " + what + ")", x.forecast(hours, what), y.forecast(hours, what));
    }

    private void counted(String at, int what) {
        due(at + "count(" + what + ")", x.count(what), y.count(what));
    }

    private void everything(String at) {
        for (int i = 0; i <= 16; i++) {
            counted(at, i);
        }
        for (int number = 0; number < 12; number++) {
            for (int i = 0; i <= 9; i++) {
                due(at + "set(" + number + ", " + i + ")", x.set(number, i), y.set(number, i));
                due(at + "site(" + number + ", " + i + ")", x.site(number, i), y.site(number, i));
            }
        }
    }
}
