import java.util.ArrayList;
import java.util.Comparator;
import java.util.List;
import java.util.regex.Matcher;
import java.util.regex.Pattern;

/** The document once more, in the plainest form and with the whole library: what RandomTest compares with. */
final class PlainStorm {
    private static final Pattern TEXT;

    static {
        String hour = "(0|[1-9][0-9]{0,2})";
        String site = "([1-9])\\*([1-9][0-9]?)@" + hour + "-" + hour;
        TEXT = Pattern.compile(site + "(;" + site + ")*");
    }

    private static final class Unit implements Cloneable {
        int power;
        int tank;
        int burn;
        int limit;
        int fuel;
        int warmth;
        int worked;
        boolean runs;

        int hours() {
            return fuel / burn;
        }

        void stop() {
            runs = false;
            warmth = 0;
        }

        Unit copy() {
            try {
                return (Unit) clone();
            } catch (CloneNotSupportedException e) {
                throw new IllegalStateException(e);
            }
        }
    }

    private static final class Place implements Cloneable {
        int number;
        int rank;
        int load;
        int from;
        int until;
        int lit;
        int dark;
        int bill;
        int cause = -5;
        Unit unit;

        Place copy() {
            try {
                return (Place) clone();
            } catch (CloneNotSupportedException e) {
                throw new IllegalStateException(e);
            }
        }
    }

    private static final class World {
        int hour;
        int degrees = 5;
        int price = 10;
        int depot;
        int burnt;
        int bought;
        int failed;
        int lit;
        int dark;
        int bills;
        List<Unit> units = new ArrayList<>();
        List<Place> places = new ArrayList<>();

        World copy() {
            World w = new World();
            w.hour = hour;
            w.degrees = degrees;
            w.price = price;
            w.depot = depot;
            w.burnt = burnt;
            w.bought = bought;
            w.failed = failed;
            w.lit = lit;
            w.dark = dark;
            w.bills = bills;
            for (Unit u : units) {
                w.units.add(u.copy());
            }
            for (Place p : places) {
                Place q = p.copy();
                q.unit = p.unit == null ? null : w.units.get(units.indexOf(p.unit));
                w.places.add(q);
            }
            return w;
        }

        boolean open(Place p) {
            return p.from <= hour && hour < p.until;
        }

        Place placeOf(Unit u) {
            return places.stream().filter(p -> p.unit == u).findFirst().orElse(null);
        }

        List<Unit> yard() {
            return units.stream().filter(u -> placeOf(u) == null).toList();
        }

        Unit least(Place p) {
            return yard().stream().filter(u -> u.power >= p.load)
                .min(Comparator.comparingInt((Unit u) -> u.power).thenComparingInt(units::indexOf)).orElse(null);
        }

        Comparator<Place> need() {
            return Comparator.comparingInt((Place p) -> -p.rank).thenComparingInt(p -> -p.load)
                .thenComparingInt(p -> p.number);
        }

        List<Place> needy() {
            return places.stream().filter(this::open).sorted(need()).toList();
        }

        List<Place> thirsty() {
            return places.stream().filter(p -> p.unit != null)
                .sorted(Comparator.comparingInt((Place p) -> p.unit.hours()).thenComparing(need())).toList();
        }

        int why(Place p) {
            if (p.unit == null) {
                return 1;
            }
            if (p.unit.runs) {
                return 0;
            }
            if (p.unit.fuel < p.unit.burn) {
                return 2;
            }
            return Math.max(0, p.unit.limit - degrees) > 5 * p.unit.warmth ? 3 : 0;
        }

        void tick() {
            for (Place p : places) {
                if (!open(p)) {
                    continue;
                }
                int cause = why(p);
                if (cause == 0) {
                    p.unit.fuel -= p.unit.burn;
                    burnt += p.unit.burn;
                    p.unit.worked++;
                    p.unit.runs = p.unit.fuel >= p.unit.burn;
                    p.lit++;
                    lit++;
                    p.bill += p.unit.power * price;
                    bills += p.unit.power * price;
                } else {
                    p.dark++;
                    dark++;
                    p.cause = cause;
                    if (cause != 1) {
                        failed++;
                    }
                    if (cause == 3) {
                        p.unit.warmth++;
                    }
                }
            }
            hour++;
            for (Place p : places) {
                if (p.until == hour && p.unit != null) {
                    p.unit.stop();
                    p.unit = null;
                }
            }
        }
    }

    private World w = new World();
    private World kept;
    private final List<World> past = new ArrayList<>();
    private final StringBuilder text = new StringBuilder();

    private int act(World before, int answer) {
        past.add(before);
        if (past.size() > 5) {
            past.remove(0);
        }
        return answer;
    }

    private static boolean in(int value, int low, int high) {
        return low <= value && value <= high;
    }

    int buy(int litres) {
        if (!in(litres, 1, 5000)) {
            return -2;
        }
        if (w.depot + litres > 50000) {
            return -3;
        }
        World before = w.copy();
        w.depot += litres;
        w.bought += litres;
        return act(before, w.depot);
    }

    int weather(int degrees) {
        if (!in(degrees, -30, 20)) {
            return -2;
        }
        if (degrees == w.degrees) {
            return -5;
        }
        World before = w.copy();
        w.degrees = degrees;
        return act(before, Math.max(before.degrees, degrees) - Math.min(before.degrees, degrees));
    }

    int setPrice(int price) {
        if (!in(price, 1, 99)) {
            return -2;
        }
        if (price == w.price) {
            return -5;
        }
        World before = w.copy();
        w.price = price;
        return act(before, before.price);
    }

    int addSet(int power, int tank, int burn, int limit) {
        if (!in(power, 1, 99) || !in(tank, 10, 500) || !in(burn, 1, 50) || burn > tank || !in(limit, -30, 10)) {
            return -2;
        }
        if (w.units.size() == 10) {
            return -3;
        }
        World before = w.copy();
        Unit u = new Unit();
        u.power = power;
        u.tank = tank;
        u.burn = burn;
        u.limit = limit;
        w.units.add(u);
        return act(before, w.units.size() - 1);
    }

    int fill(int set) {
        if (!in(set, 0, w.units.size() - 1)) {
            return -1;
        }
        if (w.placeOf(w.units.get(set)) != null) {
            return -4;
        }
        World before = w.copy();
        Unit u = w.units.get(set);
        while (u.fuel < u.tank && w.depot > 0) {
            u.fuel++;
            w.depot--;
        }
        int litres = before.depot - w.depot;
        return litres == 0 ? -5 : act(before, litres);
    }

    private boolean badHours(int from, int until) {
        return !in(from, 0, 998) || until <= from || until <= w.hour || until > 999;
    }

    private void add(int rank, int load, int from, int until) {
        Place p = new Place();
        p.number = w.places.size();
        p.rank = rank;
        p.load = load;
        p.from = from;
        p.until = until;
        w.places.add(p);
    }

    int addSite(int rank, int load, int from, int until) {
        if (!in(rank, 1, 9) || !in(load, 1, 99) || badHours(from, until)) {
            return -2;
        }
        if (w.places.size() == 12) {
            return -3;
        }
        World before = w.copy();
        add(rank, load, from, until);
        return act(before, w.places.size() - 1);
    }

    int bring(int set, int site) {
        if (!in(set, 0, w.units.size() - 1) || !in(site, 0, w.places.size() - 1)) {
            return -1;
        }
        Unit u = w.units.get(set);
        Place p = w.places.get(site);
        if (w.placeOf(u) != null || p.unit != null || w.hour >= p.until || u.power < p.load) {
            return -4;
        }
        World before = w.copy();
        p.unit = u;
        u.stop();
        return act(before, w.yard().size());
    }

    int takeBack(int site) {
        if (!in(site, 0, w.places.size() - 1)) {
            return -1;
        }
        if (w.places.get(site).unit == null) {
            return -5;
        }
        World before = w.copy();
        Unit u = w.places.get(site).unit;
        w.places.get(site).unit = null;
        u.stop();
        return act(before, w.units.indexOf(u));
    }

    int giveOut() {
        World before = w.copy();
        int given = 0;
        for (Place p : w.needy()) {
            if (p.unit == null) {
                p.unit = w.least(p);
                if (p.unit != null) {
                    p.unit.stop();
                    given++;
                }
            }
        }
        return given == 0 ? -5 : act(before, given);
    }

    int swap() {
        for (Place p : w.needy()) {
            if (p.unit != null || w.least(p) != null) {
                continue;
            }
            Place giver = w.places.stream()
                .filter(q -> q.unit != null && q.unit.power >= p.load && w.least(q) != null)
                .min(Comparator.comparingInt((Place q) -> q.unit.power).thenComparingInt(q -> q.number)).orElse(null);
            if (giver != null) {
                World before = w.copy();
                Unit small = w.least(giver);
                p.unit = giver.unit;
                giver.unit = small;
                p.unit.stop();
                giver.unit.stop();
                return act(before, 100 * p.number + giver.number);
            }
        }
        return -5;
    }

    int fuelRun() {
        World before = w.copy();
        int truck = Math.min(300, w.depot);
        w.depot -= truck;
        int start = truck;
        for (Place p : w.thirsty()) {
            while (truck > 0 && p.unit.fuel < p.unit.tank) {
                truck--;
                p.unit.fuel++;
            }
        }
        w.depot += truck;
        return start == truck ? -5 : act(before, start - truck);
    }

    int pass(int hours) {
        if (!in(hours, 1, 24)) {
            return -2;
        }
        if (w.hour + hours > 999) {
            return -4;
        }
        World before = w.copy();
        for (int i = 0; i < hours; i++) {
            w.tick();
        }
        return act(before, w.lit - before.lit);
    }

    int type(char character) {
        if (text.length() == 60) {
            return -3;
        }
        text.append(character);
        return text.length();
    }

    int clearText() {
        int length = text.length();
        text.setLength(0);
        return length;
    }

    /** A character is not allowed at its place if no text of sites begins with all up to it. */
    private static int fault(String text) {
        for (int length = 1; length <= text.length(); length++) {
            Matcher m = TEXT.matcher(text.substring(0, length));
            if (!m.matches() && !m.hitEnd()) {
                return length - 1;
            }
        }
        return TEXT.matcher(text).matches() ? -1 : text.length();
    }

    int readSites() {
        int fault = fault(text.toString());
        if (fault >= 0) {
            return -100 - fault;
        }
        String[] parts = text.toString().split(";");
        int[][] rows = new int[parts.length][4];
        for (int i = 0; i < parts.length; i++) {
            String[] numbers = parts[i].split("[*@-]");
            for (int j = 0; j < 4; j++) {
                rows[i][j] = Integer.parseInt(numbers[j]);
            }
            if (badHours(rows[i][2], rows[i][3])) {
                return -2;
            }
        }
        if (w.places.size() + rows.length > 12) {
            return -3;
        }
        World before = w.copy();
        for (int[] row : rows) {
            add(row[0], row[1], row[2], row[3]);
        }
        return act(before, rows.length);
    }

    int undo() {
        if (past.isEmpty()) {
            return -5;
        }
        w = past.remove(past.size() - 1);
        return past.size();
    }

    int keep() {
        kept = w.copy();
        return w.hour;
    }

    int restore() {
        if (kept == null) {
            return -5;
        }
        World before = w;
        w = kept.copy();
        return act(before, w.hour);
    }

    int set(int set, int what) {
        if (!in(set, 0, w.units.size() - 1)) {
            return -1;
        }
        Unit u = w.units.get(set);
        Place p = w.placeOf(u);
        int[] row = {u.power, u.tank, u.burn, u.limit, u.fuel, p == null ? -5 : p.number, u.runs ? 1 : 0, u.warmth,
            u.worked, u.hours()};
        return in(what, 0, 9) ? row[what] : -2;
    }

    int site(int site, int what) {
        if (!in(site, 0, w.places.size() - 1)) {
            return -1;
        }
        Place p = w.places.get(site);
        int[] row = {p.rank, p.load, p.from, p.until, p.unit == null ? -5 : w.units.indexOf(p.unit), p.lit, p.dark,
            p.bill, p.cause, w.open(p) ? 1 : 0};
        return in(what, 0, 9) ? row[what] : -2;
    }

    int why(int site) {
        if (!in(site, 0, w.places.size() - 1)) {
            return -1;
        }
        Place p = w.places.get(site);
        return w.open(p) ? w.why(p) : -5;
    }

    private static int at(List<Place> row, int place) {
        return place < 0 ? -2 : place < row.size() ? row.get(place).number : -5;
    }

    int needy(int place) {
        return at(w.needy(), place);
    }

    int thirsty(int place) {
        return at(w.thirsty(), place);
    }

    int forecast(int hours, int what) {
        if (!in(hours, 1, 24) || !in(what, 0, 3)) {
            return -2;
        }
        if (w.hour + hours > 999) {
            return -4;
        }
        World then = w.copy();
        for (int i = 0; i < hours; i++) {
            then.tick();
        }
        if (what < 3) {
            return new int[] {then.lit - w.lit, then.dark - w.dark, then.burnt - w.burnt}[what];
        }
        int best = -5;
        int most = 0;
        for (Place p : then.places) {
            int dark = p.dark - w.places.get(p.number).dark;
            if (dark > most) {
                most = dark;
                best = p.number;
            }
        }
        return best;
    }

    int count(int what) {
        int[] row = {w.hour, w.degrees + 100, w.price, w.depot, w.units.stream().mapToInt(u -> u.fuel).sum(), w.burnt,
            w.bought, w.units.size(), w.yard().size(), w.places.size(), w.needy().size(), w.lit, w.dark, w.bills,
            w.failed, past.size(), text.length()};
        return in(what, 0, 16) ? row[what] : -2;
    }
}
