/** The hire of generators in a storm, hour by hour. */
public final class StormHire {
    public static final int UNKNOWN = -1;
    public static final int BAD_VALUE = -2;
    public static final int FULL = -3;
    public static final int NOT_POSSIBLE = -4;
    public static final int NONE = -5;

    private static final int MAX_SETS = 10;
    private static final int MAX_SITES = 12;
    private static final int MAX_STATES = 5;
    private static final int MAX_TEXT = 60;
    private static final int MAX_HOUR = 999;
    private static final int MAX_HOURS_AT_ONCE = 24;
    private static final int MAX_DEPOT = 50000;
    private static final int TRUCK_LITRES = 300;
    private static final int COLDEST = -30;
    private static final int WARMEST = 20;

    private static final int LIT = 0;
    private static final int NO_SET = 1;
    private static final int TOO_DRY = 2;
    private static final int TOO_COLD = 3;

    private final State now;
    private final State ahead;
    private final State snapshot;
    private boolean snapshotTaken;
    private final History history;
    private final SiteText text;
    /** Made once and filled anew by each call that needs sites in an order, so that calls make no objects. */
    private final int[] order;

    public StormHire() {
        now = new State();
        ahead = new State();
        snapshot = new State();
        snapshotTaken = false;
        history = new History();
        text = new SiteText();
        order = new int[MAX_SITES];
    }

    // ---- the depot

    public int buy(int litres) {
        if (!isWithin(litres, 1, 5000)) {
            return BAD_VALUE;
        }
        if (now.depot + litres > MAX_DEPOT) {
            return FULL;
        }
        history.push(now);
        now.depot += litres;
        now.bought += litres;
        return now.depot;
    }

    public int weather(int degrees) {
        if (!isWithin(degrees, COLDEST, WARMEST)) {
            return BAD_VALUE;
        }
        if (degrees == now.temperature) {
            return NONE;
        }
        history.push(now);
        int change = Math.abs(degrees - now.temperature);
        now.temperature = degrees;
        return change;
    }

    public int setPrice(int price) {
        if (!isWithin(price, 1, 99)) {
            return BAD_VALUE;
        }
        if (price == now.price) {
            return NONE;
        }
        history.push(now);
        int previous = now.price;
        now.price = price;
        return previous;
    }

    public int addSet(int power, int tank, int burn, int limit) {
        boolean good = isWithin(power, 1, 99) && isWithin(tank, 10, 500)
            && isWithin(burn, 1, 50) && burn <= tank && isWithin(limit, COLDEST, 10);
        if (!good) {
            return BAD_VALUE;
        }
        if (now.setTotal >= MAX_SETS) {
            return FULL;
        }
        history.push(now);
        return now.appendSet(power, tank, burn, limit);
    }

    public int fill(int set) {
        if (!now.isSet(set)) {
            return UNKNOWN;
        }
        Generator generator = now.generators[set];
        if (generator.place != NONE) {
            return NOT_POSSIBLE;
        }
        int litres = Math.min(generator.room(), now.depot);
        if (litres <= 0) {
            return NONE;
        }
        history.push(now);
        generator.fuel += litres;
        now.depot -= litres;
        return litres;
    }

    // ---- sites

    public int addSite(int rank, int load, int from, int until) {
        if (!isWithin(rank, 1, 9) || !isWithin(load, 1, 99) || !now.allowsHours(from, until)) {
            return BAD_VALUE;
        }
        if (now.siteTotal >= MAX_SITES) {
            return FULL;
        }
        history.push(now);
        return now.appendSite(rank, load, from, until);
    }

    public int bring(int set, int site) {
        if (!now.isSet(set) || !now.isSite(site)) {
            return UNKNOWN;
        }
        Generator generator = now.generators[set];
        Customer customer = now.customers[site];
        boolean possible = generator.place == NONE && customer.supply == NONE
            && now.hour < customer.until && generator.power >= customer.load;
        if (!possible) {
            return NOT_POSSIBLE;
        }
        history.push(now);
        now.send(set, site);
        return now.yardSize();
    }

    public int takeBack(int site) {
        if (!now.isSite(site)) {
            return UNKNOWN;
        }
        int set = now.customers[site].supply;
        if (set == NONE) {
            return NONE;
        }
        history.push(now);
        now.release(site);
        return set;
    }

    public int giveOut() {
        int given = 0;
        int open = now.listOpen(order);
        for (int i = 0; i < open; i++) {
            int site = order[i];
            int set = now.customers[site].supply == NONE ? now.leastInYard(site) : NONE;
            if (set != NONE) {
                if (given == 0) {
                    history.push(now);
                }
                now.send(set, site);
                given++;
            }
        }
        return given > 0 ? given : NONE;
    }

    public int swap() {
        int open = now.listOpen(order);
        for (int i = 0; i < open; i++) {
            int site = order[i];
            boolean stuck = now.customers[site].supply == NONE && now.leastInYard(site) == NONE;
            int giver = stuck ? now.giverFor(site) : NONE;
            if (giver != NONE) {
                history.push(now);
                now.exchange(site, giver);
                return 100 * site + giver;
            }
        }
        return NONE;
    }

    public int fuelRun() {
        int truck = Math.min(TRUCK_LITRES, now.depot);
        int filled = 0;
        int supplied = now.listSupplied(order);
        for (int i = 0; i < supplied; i++) {
            Generator generator = now.supplyOf(now.customers[order[i]]);
            int litres = generator == null ? 0 : Math.min(generator.room(), truck - filled);
            if (generator != null && litres > 0) {
                if (filled == 0) {
                    history.push(now);
                }
                generator.fuel += litres;
                now.depot -= litres;
                filled += litres;
            }
        }
        return filled > 0 ? filled : NONE;
    }

    public int pass(int hours) {
        if (!isWithin(hours, 1, MAX_HOURS_AT_ONCE)) {
            return BAD_VALUE;
        }
        if (now.hour + hours > MAX_HOUR) {
            return NOT_POSSIBLE;
        }
        history.push(now);
        int before = now.litTotal();
        now.passHours(hours);
        return now.litTotal() - before;
    }

    // ---- texts

    public int type(char character) {
        return text.append(character) ? text.length : FULL;
    }

    public int clearText() {
        int length = text.length;
        text.length = 0;
        return length;
    }

    public int readSites() {
        if (!text.read()) {
            return -100 - text.at;
        }
        for (int i = 0; i < text.found; i++) {
            if (!now.allowsHours(text.lines[i].from, text.lines[i].until)) {
                return BAD_VALUE;
            }
        }
        if (now.siteTotal + text.found > MAX_SITES) {
            return FULL;
        }
        history.push(now);
        for (int i = 0; i < text.found; i++) {
            Customer line = text.lines[i];
            now.appendSite(line.rank, line.load, line.from, line.until);
        }
        return text.found;
    }

    // ---- history

    public int undo() {
        return history.popInto(now) ? history.size : NONE;
    }

    public int keep() {
        snapshot.copyFrom(now);
        snapshotTaken = true;
        return now.hour;
    }

    public int restore() {
        if (!snapshotTaken) {
            return NONE;
        }
        history.push(now);
        now.copyFrom(snapshot);
        return now.hour;
    }

    // ---- what is told

    public int set(int set, int what) {
        if (!now.isSet(set)) {
            return UNKNOWN;
        }
        Generator generator = now.generators[set];
        switch (what) {
            case 0: return generator.power;
            case 1: return generator.tank;
            case 2: return generator.burn;
            case 3: return generator.limit;
            case 4: return generator.fuel;
            case 5: return generator.place;
            case 6: return generator.runs ? 1 : 0;
            case 7: return generator.warmth;
            case 8: return generator.hoursRun;
            case 9: return generator.hoursLeft();
            default: return BAD_VALUE;
        }
    }

    public int site(int site, int what) {
        if (!now.isSite(site)) {
            return UNKNOWN;
        }
        Customer customer = now.customers[site];
        switch (what) {
            case 0: return customer.rank;
            case 1: return customer.load;
            case 2: return customer.from;
            case 3: return customer.until;
            case 4: return customer.supply;
            case 5: return customer.litHours;
            case 6: return customer.darkHours;
            case 7: return customer.bill;
            case 8: return customer.latestCause;
            case 9: return customer.isOpenIn(now.hour) ? 1 : 0;
            default: return BAD_VALUE;
        }
    }

    public int why(int site) {
        if (!now.isSite(site)) {
            return UNKNOWN;
        }
        Customer customer = now.customers[site];
        return customer.isOpenIn(now.hour) ? now.causeFor(customer) : NONE;
    }

    public int needy(int place) {
        if (place < 0) {
            return BAD_VALUE;
        }
        int open = now.listOpen(order);
        return place < open ? order[place] : NONE;
    }

    public int thirsty(int place) {
        if (place < 0) {
            return BAD_VALUE;
        }
        int supplied = now.listSupplied(order);
        return place < supplied ? order[place] : NONE;
    }

    public int forecast(int hours, int what) {
        if (!isWithin(hours, 1, MAX_HOURS_AT_ONCE) || !isWithin(what, 0, 3)) {
            return BAD_VALUE;
        }
        if (now.hour + hours > MAX_HOUR) {
            return NOT_POSSIBLE;
        }
        ahead.copyFrom(now);
        ahead.passHours(hours);
        switch (what) {
            case 0: return ahead.litTotal() - now.litTotal();
            case 1: return ahead.darkTotal() - now.darkTotal();
            case 2: return ahead.burnt - now.burnt;
            default: return ahead.darkestSince(now);
        }
    }

    public int count(int what) {
        switch (what) {
            case 0: return now.hour;
            case 1: return now.temperature + 100;
            case 2: return now.price;
            case 3: return now.depot;
            case 4: return now.fuelInTanks();
            case 5: return now.burnt;
            case 6: return now.bought;
            case 7: return now.setTotal;
            case 8: return now.yardSize();
            case 9: return now.siteTotal;
            case 10: return now.listOpen(order);
            case 11: return now.litTotal();
            case 12: return now.darkTotal();
            case 13: return now.billTotal();
            case 14: return now.failedStarts;
            case 15: return history.size;
            case 16: return text.length;
            default: return BAD_VALUE;
        }
    }

    private static boolean isWithin(int value, int least, int greatest) {
        return value >= least && value <= greatest;
    }

    /** One set. */
    private static final class Generator {
        private int power;
        private int tank;
        private int burn;
        private int limit;
        private int fuel;
        /** The number of its site, or NONE in the yard. */
        private int place = NONE;
        private boolean runs;
        private int warmth;
        private int hoursRun;

        void copyFrom(Generator other) {
            power = other.power;
            tank = other.tank;
            burn = other.burn;
            limit = other.limit;
            fuel = other.fuel;
            place = other.place;
            runs = other.runs;
            warmth = other.warmth;
            hoursRun = other.hoursRun;
        }

        int room() {
            return tank - fuel;
        }

        int hoursLeft() {
            return burn > 0 ? fuel / burn : 0;
        }

        void moveTo(int newPlace) {
            place = newPlace;
            runs = false;
            warmth = 0;
        }

        /** LIT if it runs or would start, otherwise the cause for which its start would fail. */
        int causeAt(int temperature) {
            if (runs) {
                return LIT;
            }
            if (fuel < burn) {
                return TOO_DRY;
            }
            return temperature < limit && limit - temperature > 5 * warmth ? TOO_COLD : LIT;
        }

        void burnHour() {
            fuel -= burn;
            hoursRun++;
            runs = fuel >= burn;
        }
    }

    /** One site. */
    private static final class Customer {
        private int rank;
        private int load;
        private int from;
        private int until;
        /** The number of its set, or NONE. */
        private int supply = NONE;
        private int litHours;
        private int darkHours;
        private int bill;
        private int latestCause = NONE;

        void copyFrom(Customer other) {
            rank = other.rank;
            load = other.load;
            from = other.from;
            until = other.until;
            supply = other.supply;
            litHours = other.litHours;
            darkHours = other.darkHours;
            bill = other.bill;
            latestCause = other.latestCause;
        }

        void begin(int newRank, int newLoad, int newFrom, int newUntil) {
            rank = newRank;
            load = newLoad;
            from = newFrom;
            until = newUntil;
            supply = NONE;
            litHours = 0;
            darkHours = 0;
            bill = 0;
            latestCause = NONE;
        }

        boolean isOpenIn(int hour) {
            return from <= hour && hour < until;
        }

        boolean needsMoreThan(Customer other) {
            return rank > other.rank || rank == other.rank && load > other.load;
        }

        void darken(int cause) {
            darkHours++;
            latestCause = cause;
        }

        void light(int price) {
            litHours++;
            bill += price;
        }
    }

    /** Everything but the text, the history and the snapshot. */
    private static final class State {
        private int hour;
        private int temperature = 5;
        private int price = 10;
        private int depot;
        private int burnt;
        private int bought;
        private int failedStarts;
        private int setTotal;
        private int siteTotal;
        private final Generator[] generators = new Generator[MAX_SETS];
        private final Customer[] customers = new Customer[MAX_SITES];

        State() {
            for (int i = 0; i < MAX_SETS; i++) {
                generators[i] = new Generator();
            }
            for (int i = 0; i < MAX_SITES; i++) {
                customers[i] = new Customer();
            }
        }

        void copyFrom(State other) {
            hour = other.hour;
            temperature = other.temperature;
            price = other.price;
            depot = other.depot;
            burnt = other.burnt;
            bought = other.bought;
            failedStarts = other.failedStarts;
            setTotal = other.setTotal;
            siteTotal = other.siteTotal;
            for (int i = 0; i < setTotal; i++) {
                generators[i].copyFrom(other.generators[i]);
            }
            for (int i = 0; i < siteTotal; i++) {
                customers[i].copyFrom(other.customers[i]);
            }
        }

        boolean isSet(int number) {
            return number >= 0 && number < setTotal;
        }

        boolean isSite(int number) {
            return number >= 0 && number < siteTotal;
        }

        boolean allowsHours(int from, int until) {
            return isWithin(from, 0, MAX_HOUR - 1) && until > from && until > hour && until <= MAX_HOUR;
        }

        /** The caller has made sure that there is room. */
        int appendSet(int power, int tank, int burn, int limit) {
            Generator generator = generators[setTotal];
            generator.power = power;
            generator.tank = tank;
            generator.burn = burn;
            generator.limit = limit;
            generator.fuel = 0;
            generator.hoursRun = 0;
            generator.moveTo(NONE);
            setTotal++;
            return setTotal - 1;
        }

        /** The caller has made sure that there is room. */
        int appendSite(int rank, int load, int from, int until) {
            customers[siteTotal].begin(rank, load, from, until);
            siteTotal++;
            return siteTotal - 1;
        }

        Generator supplyOf(Customer customer) {
            return isSet(customer.supply) ? generators[customer.supply] : null;
        }

        void send(int set, int site) {
            customers[site].supply = set;
            generators[set].moveTo(site);
        }

        void release(int site) {
            Generator generator = supplyOf(customers[site]);
            if (generator != null) {
                generator.moveTo(NONE);
            }
            customers[site].supply = NONE;
        }

        /** The set in the yard that fits the site and has the least power, or NONE. */
        int leastInYard(int site) {
            int best = NONE;
            for (int i = 0; i < setTotal; i++) {
                boolean fits = generators[i].place == NONE && generators[i].power >= customers[site].load;
                if (fits && (best == NONE || generators[i].power < generators[best].power)) {
                    best = i;
                }
            }
            return best;
        }

        /** The site whose set goes to the given site in a swap, or NONE. */
        int giverFor(int site) {
            int best = NONE;
            int bestPower = 0;
            for (int i = 0; i < siteTotal; i++) {
                Generator generator = supplyOf(customers[i]);
                boolean gives = generator != null && generator.power >= customers[site].load
                    && leastInYard(i) != NONE;
                if (gives && (best == NONE || generator.power < bestPower)) {
                    best = i;
                    bestPower = generator.power;
                }
            }
            return best;
        }

        void exchange(int site, int giver) {
            int big = customers[giver].supply;
            // Chosen while the big set is still out: it would fit its old site as well.
            int small = leastInYard(giver);
            if (isSet(big) && isSet(small)) {
                send(small, giver);
                send(big, site);
            }
        }

        /** Lists the open sites by need and tells how many they are. */
        int listOpen(int[] row) {
            int size = 0;
            for (int i = 0; i < siteTotal; i++) {
                if (customers[i].isOpenIn(hour)) {
                    insert(row, size, i, false);
                    size++;
                }
            }
            return size;
        }

        /** Lists the sites that have a set in the order of a fuel run and tells how many they are. */
        int listSupplied(int[] row) {
            int size = 0;
            for (int i = 0; i < siteTotal; i++) {
                if (customers[i].supply != NONE) {
                    insert(row, size, i, true);
                    size++;
                }
            }
            return size;
        }

        /** Sites come by rising numbers, so those that are alike stay in this order. */
        void insert(int[] row, int size, int site, boolean byThirst) {
            int at = size;
            for (; at > 0 && isAhead(site, row[at - 1], byThirst); at--) {
                row[at] = row[at - 1];
            }
            row[at] = site;
        }

        boolean isAhead(int site, int other, boolean byThirst) {
            int difference = byThirst ? hoursLeftAt(site) - hoursLeftAt(other) : 0;
            return difference < 0 || difference == 0 && customers[site].needsMoreThan(customers[other]);
        }

        int hoursLeftAt(int site) {
            Generator generator = supplyOf(customers[site]);
            return generator == null ? 0 : generator.hoursLeft();
        }

        int causeFor(Customer customer) {
            Generator generator = supplyOf(customer);
            return generator == null ? NO_SET : generator.causeAt(temperature);
        }

        void passHours(int hours) {
            for (int i = 0; i < hours; i++) {
                passHour();
            }
        }

        void passHour() {
            for (int i = 0; i < siteTotal; i++) {
                if (customers[i].isOpenIn(hour)) {
                    lightOrDarken(customers[i]);
                }
            }
            hour++;
            for (int i = 0; i < siteTotal; i++) {
                if (customers[i].until == hour) {
                    release(i);
                }
            }
        }

        void lightOrDarken(Customer customer) {
            int cause = causeFor(customer);
            Generator generator = supplyOf(customer);
            if (generator == null) {
                customer.darken(cause);
            } else if (cause == LIT) {
                generator.burnHour();
                burnt += generator.burn;
                customer.light(generator.power * price);
            } else {
                customer.darken(cause);
                failedStarts++;
                generator.warmth += cause == TOO_COLD ? 1 : 0;
            }
        }

        /** The site with the most hours that are dark here and were not in the earlier state, or NONE. */
        int darkestSince(State earlier) {
            int best = NONE;
            int most = 0;
            for (int i = 0; i < earlier.siteTotal; i++) {
                int dark = customers[i].darkHours - earlier.customers[i].darkHours;
                if (dark > most) {
                    best = i;
                    most = dark;
                }
            }
            return best;
        }

        int yardSize() {
            int size = 0;
            for (int i = 0; i < setTotal; i++) {
                size += generators[i].place == NONE ? 1 : 0;
            }
            return size;
        }

        int fuelInTanks() {
            int litres = 0;
            for (int i = 0; i < setTotal; i++) {
                litres += generators[i].fuel;
            }
            return litres;
        }

        int litTotal() {
            int hours = 0;
            for (int i = 0; i < siteTotal; i++) {
                hours += customers[i].litHours;
            }
            return hours;
        }

        int darkTotal() {
            int hours = 0;
            for (int i = 0; i < siteTotal; i++) {
                hours += customers[i].darkHours;
            }
            return hours;
        }

        int billTotal() {
            int sum = 0;
            for (int i = 0; i < siteTotal; i++) {
                sum += customers[i].bill;
            }
            return sum;
        }
    }

    /** The latest states, in a ring of rows that are used again. */
    private static final class History {
        private final State[] rows = new State[MAX_STATES];
        private int oldest;
        private int size;

        History() {
            for (int i = 0; i < MAX_STATES; i++) {
                rows[i] = new State();
            }
        }

        void push(State state) {
            rows[(oldest + size) % MAX_STATES].copyFrom(state);
            if (size < MAX_STATES) {
                size++;
            } else {
                oldest = (oldest + 1) % MAX_STATES;
            }
        }

        boolean popInto(State state) {
            if (size <= 0) {
                return false;
            }
            size--;
            state.copyFrom(rows[(oldest + size) % MAX_STATES]);
            return true;
        }
    }

    /** The text and the sites that were read from it last. */
    private static final class SiteText {
        /** The shortest site and its ";" are 8 characters, so that no text holds more sites. */
        private static final int MAX_LINES = 8;
        private static final int NO_NUMBER = -1;

        private final char[] signs = new char[MAX_TEXT];
        private int length;
        private final Customer[] lines = new Customer[MAX_LINES];
        private int found;
        /** Where the reading stands; the fault, if it failed. */
        private int at;

        SiteText() {
            for (int i = 0; i < MAX_LINES; i++) {
                lines[i] = new Customer();
            }
        }

        boolean append(char sign) {
            if (length >= MAX_TEXT) {
                return false;
            }
            signs[length] = sign;
            length++;
            return true;
        }

        boolean read() {
            at = 0;
            found = 0;
            boolean good = readSite();
            for (int i = 1; i < MAX_LINES && good && at < length; i++) {
                good = skip(';') && readSite();
            }
            return good;
        }

        boolean readSite() {
            int rank = readNumber('1', 1);
            if (rank == NO_NUMBER || !skip('*')) {
                return false;
            }
            int load = readNumber('1', 2);
            if (load == NO_NUMBER || !skip('@')) {
                return false;
            }
            int from = readNumber('0', 3);
            if (from == NO_NUMBER || !skip('-')) {
                return false;
            }
            int until = readNumber('0', 3);
            if (until == NO_NUMBER || found >= MAX_LINES) {
                return false;
            }
            lines[found].begin(rank, load, from, until);
            found++;
            return true;
        }

        /** Reads a number of at most so many digits; a zero in front stands alone. */
        int readNumber(char lowestFirst, int digits) {
            if (!isDigitFrom(lowestFirst)) {
                return NO_NUMBER;
            }
            int value = signs[at] - '0';
            at++;
            int more = value == 0 ? 0 : digits - 1;
            for (int i = 0; i < more && isDigitFrom('0'); i++) {
                value = 10 * value + (signs[at] - '0');
                at++;
            }
            return value;
        }

        boolean isDigitFrom(char lowest) {
            return at < length && signs[at] >= lowest && signs[at] <= '9';
        }

        boolean skip(char sign) {
            if (at >= length || signs[at] != sign) {
                return false;
            }
            at++;
            return true;
        }
    }
}
