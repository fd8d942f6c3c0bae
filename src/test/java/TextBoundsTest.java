import java.util.function.Supplier;

/** Promises 14 to 16 at their bounds: above each method stands what it holds, mostly in the document's own words. */
public final class TextBoundsTest {
    private static final String SITE = "1*1@0-9";
    /** Each beginning of a site that asks for something else next, and the characters that are allowed there. */
    private static final String[][] NEXT = {
        {"", "123456789"}, {"1", "*"}, {"9", "*"}, {"1*", "123456789"}, {"1*1", "0123456789@"},
        {"1*9", "0123456789@"}, {"1*10", "@"}, {"1*99", "@"}, {"1*1@", "0123456789"}, {"1*1@0", "-"},
        {"1*1@1", "0123456789-"}, {"1*1@9", "0123456789-"}, {"1*1@10", "0123456789-"}, {"1*1@99", "0123456789-"},
        {"1*1@100", "-"}, {"1*1@999", "-"}, {"1*1@0-", "0123456789"}, {"1*1@0-0", ";"}, {"1*1@0-1", "0123456789;"},
        {"1*1@0-9", "0123456789;"}, {"1*1@0-10", "0123456789;"}, {"1*1@0-99", "0123456789;"}, {"1*1@0-100", ";"},
        {"1*1@0-999", ";"}, {"1*10@0-1;", "123456789"}};

    public static void main(String[] args) {
        typeTakesSixtyCharacters();
        typeTakesAnyCharacter();
        typeIsNoAct();
        clearTextTellsTheLength();
        clearTextIsNoAct();
        faultIsTheFirstThatIsNotAllowed();
        faultIsTheLengthIfItEndsTooEarly();
        faultInALaterSite();
        faultAtTheLastCharacters();
        numbersHaveNoZerosInFront();
        loadsHaveTwoDigitsAndHoursThree();
        orderOfHoursIsNoFault();
        hoursAreAsAddSiteWantsThem();
        anyBadHoursRefuseAll();
        fullIfThereAreNotSoManyPlaces();
        faultBeforeBadBeforeFull();
        oneToSevenSites();
        readIsOneActAndTheTextStays();
        Check.end("TextBoundsTest");
    }

    private static StormHire with(String text) {
        StormHire x = new StormHire();
        Check.typeAll(x, text);
        return x;
    }

    private static Supplier<StormHire> busyWith(String text) {
        return () -> {
            StormHire x = Scenes.busy();
            Check.retype(x, text);
            return x;
        };
    }

    private static void reads(String text, int due) {
        Check.due("readSites() of " + text, with(text).readSites(), due);
    }

    /** "There is a text of at most 60 characters, empty at first." type: "FULL if it has 60 characters". */
    private static void typeTakesSixtyCharacters() {
        StormHire x = new StormHire();
        Check.due("empty at first", x.count(16), 0);
        for (int i = 1; i <= 60; i++) {
            Check.due("type, character " + i, x.type('1'), i);
            Check.due("length", x.count(16), i);
        }
        Check.due("type, character 61", x.type('1'), -3);
        Check.due("type, again", x.type(';'), -3);
        Check.due("length", x.count(16), 60);
        String full = "1*1@0-9;".repeat(7) + "1*1@";
        for (char sign : new char[] {'0', ';', (char) 0, (char) 255, (char) 65535}) {
            Twin.unchanged("type(" + (int) sign + ") at 60", busyWith(full), y -> y.type(sign), -3);
        }
        Check.due("the last of sixty is kept", with(full).readSites(), -160);
        x.clearText();
        Check.due("type after clearText()", x.type('1'), 1);
        StormHire undone = with("1".repeat(59));
        undone.buy(1);
        Check.due("the sixtieth", undone.type('1'), 60);
        undone.undo();
        Check.due("undo() makes no room", undone.type('1'), -3);
    }

    /** type: "character: any character". */
    private static void typeTakesAnyCharacter() {
        int[] signs = {0, 1, 9, 10, 13, 32, 47, 48, 57, 58, 127, 128, 233, 255, 256, 304, 0x0661, 0xd800, 0xdfff,
            65535};
        StormHire x = new StormHire();
        for (int i = 0; i < signs.length; i++) {
            Check.due("type(" + signs[i] + ")", x.type((char) signs[i]), i + 1);
            reads("" + (char) signs[i], signs[i] >= '1' && signs[i] <= '9' ? -101 : -100);
        }
    }

    /** type is not described as an act: the history stays, and undo() and restore() do not touch the text. */
    private static void typeIsNoAct() {
        StormHire x = Scenes.busy();
        Check.retype(x, SITE);
        Check.due("the history is as it was", x.count(15), 5);
        Check.due("nothing to undo", with(SITE).undo(), -5);
        Check.due("no history", with(SITE).count(15), 0);
        x.undo();
        Check.due("undo() leaves the text", x.count(16), 7);
        x.restore();
        Check.due("restore() leaves the text", x.count(16), 7);
        Check.due("and what stands in it", x.readSites(), 1);
        StormHire y = Scenes.busy();
        y.type('x');
        int[] told = Twin.state(y);
        int[] before = Twin.state(Scenes.busy());
        Check.due("only the length changes", told[16], before[16] + 1);
        told[16] = before[16];
        Check.holds("nothing else does", Twin.same(told, before));
    }

    /** clearText: "Returns the length that it had." */
    private static void clearTextTellsTheLength() {
        for (int length : new int[] {0, 1, 2, 59, 60}) {
            StormHire x = with("1".repeat(length));
            Check.due("clearText() of " + length, x.clearText(), length);
            Check.due("then", x.count(16), 0);
            Check.due("clearText() again", x.clearText(), 0);
            Check.due("nothing stays of it", x.readSites(), -100);
        }
        StormHire x = with("1".repeat(60));
        x.type('1');
        Check.due("what was refused does not count", x.clearText(), 60);
        Check.retype(x, "1*1");
        x.clearText();
        x.type('1');
        Check.due("what was cleared does not come back", x.readSites(), -101);
    }

    private static void clearTextIsNoAct() {
        StormHire x = Scenes.busy();
        x.clearText();
        Check.due("the history is as it was", x.count(15), 5);
        x.undo();
        Check.due("undo() brings no text back", x.count(16), 0);
        x.keep();
        x.restore();
        Check.due("restore() brings none back", x.count(16), 0);
        Check.due("an empty text is too short", x.readSites(), -100);
        Twin.unchanged("clearText() of an empty text", busyWith(""), StormHire::clearText, 0);
    }

    /** "The fault of the text is the index, from 0, of the first character that is not allowed at its place". */
    private static void faultIsTheFirstThatIsNotAllowed() {
        for (String[] row : NEXT) {
            for (int sign = 0; sign < 300; sign++) {
                String text = row[0] + (char) sign;
                boolean allowed = row[1].indexOf(sign) >= 0;
                int answer = with(text).readSites();
                String call = "readSites() of " + row[0] + " and the character " + sign;
                if (allowed) {
                    Check.holds(call + " is no fault there, but answered " + answer,
                        answer == -100 - text.length() || answer == -2 || answer == 1);
                } else {
                    Check.due(call, answer, -100 - row[0].length());
                    Check.due(call + ", then another", with(text + "x1;").readSites(), -100 - row[0].length());
                }
            }
        }
    }

    /** "or the length of the text if it ends too early (the empty text does)". */
    private static void faultIsTheLengthIfItEndsTooEarly() {
        String two = "1*10@0-999;9*99@100-998";
        for (int length = 0; length <= two.length(); length++) {
            boolean whole = length >= 8 && length <= 10 || length >= 21;
            int sites = length > 11 ? 2 : 1;
            StormHire x = with(two.substring(0, length));
            boolean badHours = length == 21 || length == 22;
            reads(two.substring(0, length), !whole ? -100 - length : badHours ? -2 : sites);
            if (!whole) {
                Twin.unchanged("too early, " + length, busyWith(two.substring(0, length)), StormHire::readSites,
                    -100 - length);
                Check.due("no site is added", x.readSites() < 0 ? x.count(9) : -1, 0);
            }
        }
        Twin.unchanged("readSites() of the empty text", Scenes::fresh, StormHire::readSites, -100);
    }

    /** The index is that in the text, not that in the site; all or none are added. */
    private static void faultInALaterSite() {
        for (int before = 0; before <= 6; before++) {
            String front = (SITE + ";").repeat(before);
            for (int at = 0; at < SITE.length(); at++) {
                int cut = Math.min(SITE.length(), 60 - front.length());
                if (at >= cut) {
                    continue;
                }
                String bad = SITE.substring(0, at) + 'x' + SITE.substring(at + 1, cut);
                reads(front + bad, -100 - front.length() - at);
            }
            if (before > 0) {
                reads(front, -100 - front.length());
                reads(front + ";", -100 - front.length());
                reads(front + "0", -100 - front.length());
            }
        }
        Twin.unchanged("good sites ahead of a fault", busyWith("1*1@0-9;2*2@0-9;3*3@0-x"), StormHire::readSites, -122);
        reads(";" + SITE, -100);
        reads(SITE + SITE, -108);
        reads(SITE + ",", -107);
        reads(SITE + " ;" + SITE, -107);
    }

    /** The greatest indices: a full text with a fault at its end, or one that ends too early. */
    private static void faultAtTheLastCharacters() {
        String front = "1*10@100-200;".repeat(4);
        Check.due("length of the front", front.length(), 52);
        reads(front + "1*1@0-99", 5);
        reads(front + "1*1@0-9x", -159);
        reads(front + "1*1@0-9;", -160);
        reads(front + "1*10@0-", -159);
        reads(front + "1*10@10-", -160);
        reads(front + "1*10@10x", -159);
        reads(front + "1*1@0-9", 5);
        reads(front.substring(0, 51), 4);
        StormHire x = with(front + "1*1@0-99");
        x.type('9');
        Check.due("what was refused is no part of it", x.readSites(), 5);
        Check.due("the last number", x.site(4, 3), 99);
    }

    /** "None of the numbers has zeros in front (unless it is the single digit 0; a load cannot be 0)." */
    private static void numbersHaveNoZerosInFront() {
        Object[][] rows = {{"0*1@0-9", -100}, {"1*0@0-9", -102}, {"1*00@0-9", -102}, {"1*01@0-9", -102},
            {"1*1@00-9", -105}, {"1*1@01-9", -105}, {"1*1@000-9", -105}, {"1*1@0-09", -107}, {"1*1@0-009", -107},
            {"1*1@0-00", -107}, {"1*1@0-9", 1}, {"1*10@0-9", 1}, {"1*1@10-20", 1}, {"1*1@100-200", 1},
            {"1*1@101-102", 1}, {"1*1@0-0", -2}, {"1*1@1-0", -2}, {"1*1@0-9;1*1@0-0", -2}, {"1*1@0-9;1*0@0-9", -110}};
        for (Object[] row : rows) {
            reads((String) row[0], (Integer) row[1]);
        }
    }

    /** "the load (one or two digits)", "the hour ... (one to three digits)", the rank one. */
    private static void loadsHaveTwoDigitsAndHoursThree() {
        Object[][] rows = {{"11*1@0-9", -101}, {"1*1@0-9", 1}, {"1*9@0-9", 1}, {"1*10@0-9", 1}, {"1*99@0-9", 1},
            {"1*100@0-9", -104}, {"1*1@9-10", 1}, {"1*1@99-100", 1}, {"1*1@998-999", 1}, {"1*1@1000-9", -107},
            {"1*1@0-10", 1}, {"1*1@0-100", 1}, {"1*1@0-999", 1}, {"1*1@0-1000", -109}, {"1*1@0-9990", -109},
            {"9*1@0-9", 1}, {"1*1@9980-999", -107}};
        for (Object[] row : rows) {
            reads((String) row[0], (Integer) row[1]);
        }
        StormHire x = with("9*99@998-999;1*10@100-101;2*1@0-1");
        Check.due("readSites()", x.readSites(), 3);
        int[][] due = {{9, 99, 998, 999}, {1, 10, 100, 101}, {2, 1, 0, 1}};
        for (int site = 0; site < 3; site++) {
            for (int what = 0; what < 4; what++) {
                Check.due("site(" + site + ", " + what + ")", x.site(site, what), due[site][what]);
            }
        }
    }

    /** "Whether the hours are in order plays no part" in the fault; they are a BAD_VALUE then. */
    private static void orderOfHoursIsNoFault() {
        for (String text : new String[] {"1*1@9-8", "1*1@9-9", "1*1@999-0", "1*1@999-999", "1*1@0-0"}) {
            Twin.unchanged("readSites() of " + text, busyWith(text), StormHire::readSites, -2);
            reads(text + "x", -100 - text.length());
        }
    }

    private static Supplier<StormHire> textAtHour(int hour, String text) {
        return () -> {
            StormHire x = Scenes.atHour(hour);
            Check.typeAll(x, text);
            return x;
        };
    }

    /** readSites: "BAD_VALUE if the hours of any of them are not as addSite() wants them". */
    private static void hoursAreAsAddSiteWantsThem() {
        Object[][] rows = {{0, "1*1@0-1", 1}, {0, "1*1@0-0", -2}, {0, "1*1@998-999", 1}, {0, "1*1@998-998", -2},
            {0, "1*1@999-999", -2}, {0, "1*1@5-6", 1}, {0, "1*1@5-5", -2}, {0, "1*1@6-5", -2}, {10, "1*1@0-9", -2},
            {10, "1*1@0-10", -2}, {10, "1*1@9-10", -2}, {10, "1*1@0-11", 1}, {10, "1*1@10-11", 1},
            {998, "1*1@0-998", -2}, {998, "1*1@0-999", 1}, {999, "1*1@0-999", -2}, {999, "1*1@998-999", -2}};
        for (Object[] row : rows) {
            int due = (Integer) row[2];
            String call = "at hour " + row[0] + ": readSites() of " + row[1];
            Supplier<StormHire> made = textAtHour((Integer) row[0], (String) row[1]);
            if (due < 0) {
                Twin.unchanged(call, made, StormHire::readSites, due);
            } else {
                Twin.recorded(call, made, StormHire::readSites, due);
            }
        }
    }

    /** "all of them, or none": the bad hours may be those of the first, one between, or the last. */
    private static void anyBadHoursRefuseAll() {
        for (int bad = 0; bad < 7; bad++) {
            StringBuilder text = new StringBuilder();
            for (int i = 0; i < 7; i++) {
                text.append(i == 0 ? "" : ";").append(i == bad ? "1*1@9-9" : SITE);
            }
            Twin.unchanged("bad hours of site " + bad, busyWith(text.toString()), StormHire::readSites, -2);
        }
    }

    private static Supplier<StormHire> placesTaken(int taken, String text) {
        return () -> {
            StormHire x = with(text);
            for (int i = 0; i < taken; i++) {
                x.addSite(1, 1, 0, 9);
            }
            return x;
        };
    }

    /** readSites: "FULL if there are not so many places left": on both sides for each number of sites. */
    private static void fullIfThereAreNotSoManyPlaces() {
        for (int sites = 1; sites <= 7; sites++) {
            String text = SITE + (";" + SITE).repeat(sites - 1);
            Twin.recorded(sites + " to as many places", placesTaken(12 - sites, text), StormHire::readSites, sites);
            Twin.unchanged(sites + " to one place less", placesTaken(13 - sites, text), StormHire::readSites, -3);
            Twin.unchanged(sites + " to none", placesTaken(12, text), StormHire::readSites, -3);
            StormHire x = placesTaken(12 - sites, text).get();
            x.readSites();
            Check.due("twelve then", x.count(9), 12);
            Check.due("readSites() again", x.readSites(), -3);
        }
    }

    /** readSites: the order "-100 minus the fault; BAD_VALUE; FULL". */
    private static void faultBeforeBadBeforeFull() {
        Twin.unchanged("a fault behind bad hours", placesTaken(0, "1*1@9-9;x"), StormHire::readSites, -108);
        Twin.unchanged("too early behind bad hours", placesTaken(0, "1*1@9-9;"), StormHire::readSites, -108);
        Twin.unchanged("a fault when full", placesTaken(12, "1*1@0-9;x"), StormHire::readSites, -108);
        Twin.unchanged("the empty text when full", placesTaken(12, ""), StormHire::readSites, -100);
        Twin.unchanged("bad hours when full", placesTaken(12, "1*1@9-9"), StormHire::readSites, -2);
        Twin.unchanged("bad hours behind the last place", placesTaken(11, "1*1@0-9;1*1@9-9"), StormHire::readSites, -2);
        Twin.unchanged("all three", placesTaken(12, "1*1@9-9;1"), StormHire::readSites, -109);
        Twin.unchanged("no room alone", placesTaken(11, "1*1@0-9;1*1@8-9"), StormHire::readSites, -3);
    }

    /** "A text of sites is one or more sites with ";" between two": a text has room for seven. */
    private static void oneToSevenSites() {
        for (int sites = 1; sites <= 7; sites++) {
            StringBuilder text = new StringBuilder();
            for (int i = 0; i < sites; i++) {
                text.append(i == 0 ? "" : ";").append(i + 1).append('*').append(9 - i).append('@').append(i)
                    .append("-9");
            }
            StormHire x = with(text.toString());
            Check.due("readSites() of " + sites, x.readSites(), sites);
            Check.due("sites", x.count(9), sites);
            for (int i = 0; i < sites; i++) {
                int[] due = {i + 1, 9 - i, i, 9, -5, 0, 0, 0, -5, i == 0 ? 1 : 0};
                for (int what = 0; what < 10; what++) {
                    Check.due("in their order: site(" + i + ", " + what + ")", x.site(i, what), due[what]);
                }
            }
        }
    }

    /** readSites: "Adds the sites of the text, which stays"; "This is one act." */
    private static void readIsOneActAndTheTextStays() {
        Twin.recorded("readSites() of two", Scenes::busy, StormHire::readSites, 2);
        Twin.recorded("readSites() of seven", placesTaken(5, SITE + (";" + SITE).repeat(6)), StormHire::readSites, 7);
        Twin.recorded("readSites(), the first act", placesTaken(0, SITE), StormHire::readSites, 1);
        StormHire x = placesTaken(0, "9*40@3-8;5*12@0-24").get();
        Check.due("readSites()", x.readSites(), 2);
        Check.due("one act", x.count(15), 1);
        Check.due("the text stays", x.count(16), 18);
        Check.due("readSites() again", x.readSites(), 2);
        Check.due("behind those that were", x.site(3, 1), 12);
        Check.due("undo()", x.undo(), 1);
        Check.due("two are left", x.count(9), 2);
        Check.due("undo()", x.undo(), 0);
        Check.due("none is left", x.count(9), 0);
        Check.due("the text stays", x.clearText(), 18);
    }
}
