/** Promises 14 to 16: type, clearText, readSites. */
public final class TextTest {
    public static void main(String[] args) {
        type();
        clearText();
        faults();
        foreignCharacters();
        readsSites();
        longTexts();
        badHours();
        tooMany();
        Check.end("TextTest");
    }

    private static void type() {
        StormHire x = new StormHire();
        char[] any = {'a', ' ', (char) 0, (char) 127, (char) 233, (char) 255, (char) 256, Character.MAX_VALUE};
        for (int i = 0; i < any.length; i++) {
            Check.due("type", x.type(any[i]), i + 1);
        }
        for (int i = any.length; i < 60; i++) {
            Check.due("type", x.type('1'), i + 1);
        }
        Check.due("type, the sixty-first", x.type('1'), -3);
        Check.due("length", x.count(16), 60);
        Check.due("no act", x.count(15), 0);
        Check.due("no act to undo", x.undo(), -5);
        x.buy(1);
        x.clearText();
        x.type('1');
        x.undo();
        Check.due("the text is not undone", x.count(16), 1);
        x.keep();
        x.type('1');
        x.restore();
        Check.due("the text is not restored", x.count(16), 2);
    }

    private static void clearText() {
        StormHire x = new StormHire();
        Check.due("clearText() of an empty text", x.clearText(), 0);
        Check.typeAll(x, "1*2");
        Check.due("clearText()", x.clearText(), 3);
        Check.due("length", x.count(16), 0);
        Check.due("clearText() again", x.clearText(), 0);
        Check.due("no act", x.count(15), 0);
        Check.due("nothing of it stays", x.readSites(), -100);
        Check.typeAll(x, "1".repeat(60));
        Check.due("clearText() of a full text", x.clearText(), 60);
        Check.due("type", x.type('1'), 1);
    }

    private static void faults() {
        Object[][] rows = {
            {"", 0}, {"0*1@0-1", 0}, {"*", 0}, {";", 0}, {" 1*1@0-1", 0}, {"x", 0},
            {"1", 1}, {"11*1@0-1", 1}, {"1x", 1},
            {"1*", 2}, {"1*0@0-1", 2}, {"1*01@0-1", 2}, {"1*@", 2}, {"1**", 2},
            {"1*1", 3}, {"1*1-", 3}, {"1*12", 4}, {"1*123@0-1", 4}, {"1*1@", 4}, {"1*1@-", 4}, {"1*1@@", 4},
            {"1*12@", 5}, {"1*1@0", 5}, {"1*1@00-1", 5}, {"1*1@01-1", 5}, {"1*1@0@", 5},
            {"1*1@12", 6}, {"1*1@123", 7}, {"1*1@1234-1", 7}, {"1*1@123x", 7},
            {"1*1@0-", 6}, {"1*1@0-x", 6}, {"1*1@0--1", 6}, {"1*1@0-01", 7}, {"1*1@0-00", 7},
            {"1*1@0-1234", 9}, {"1*1@0-1x", 7}, {"1*1@0-123-", 9}, {"1*1@0-1 ", 7},
            {"1*1@0-1;", 8}, {"1*1@0-1;;", 8}, {"1*1@0-1;0", 8}, {"1*1@0-1;1", 9}, {"1*1@0-1;1*1@0-", 14},
            {"1*1@0-1,1*1@0-1", 7}, {"9*99@999-999:", 12}, {"9*99@999-999;", 13}, {"9*99@999-9999", 12}};
        for (Object[] row : rows) {
            String text = (String) row[0];
            StormHire x = new StormHire();
            Check.typeAll(x, text);
            Check.due("readSites() of " + text, x.readSites(), -100 - (Integer) row[1]);
            Check.due("nothing recorded", x.count(15), 0);
            Check.due("no sites", x.count(9), 0);
        }
    }

    private static void foreignCharacters() {
        String good = "1*10@2-34";
        char[] foreign = {(char) 0, '/', ':', (char) 233, (char) 255, (char) ('1' + 256), (char) 0x0661, (char) 65535};
        for (int at = 0; at < good.length(); at++) {
            for (char sign : foreign) {
                StormHire x = new StormHire();
                Check.typeAll(x, good.substring(0, at) + sign + good.substring(at + 1));
                Check.due("readSites() with " + (int) sign + " at " + at, x.readSites(), -100 - at);
            }
        }
    }

    private static void readsSites() {
        StormHire x = new StormHire();
        Check.typeAll(x, "9*40@3-8;1*1@0-999;5*99@998-999;2*10@10-100");
        Check.due("readSites()", x.readSites(), 4);
        int[][] due = {{9, 40, 3, 8}, {1, 1, 0, 999}, {5, 99, 998, 999}, {2, 10, 10, 100}};
        for (int site = 0; site < due.length; site++) {
            for (int what = 0; what < 4; what++) {
                Check.due("read: site(" + site + ", " + what + ")", x.site(site, what), due[site][what]);
            }
            Check.due("read: its set", x.site(site, 4), -5);
            Check.due("read: its cause", x.site(site, 8), -5);
        }
        Check.due("the text stays", x.count(16), 43);
        Check.due("one act", x.count(15), 1);
        Check.due("readSites() again", x.readSites(), 4);
        Check.due("behind the others", x.site(7, 3), 100);
        Check.due("undo", x.undo(), 1);
        Check.due("undo", x.undo(), 0);
        Check.due("no sites", x.count(9), 0);
        Check.due("the text stays", x.count(16), 43);
        x.addSite(3, 3, 3, 4);
        Check.due("readSites() behind one", x.readSites(), 4);
        Check.due("its rank", x.site(1, 0), 9);
    }

    private static void longTexts() {
        StormHire x = new StormHire();
        Check.typeAll(x, "1*1@0-1;2*1@0-1;3*1@0-1;4*1@0-1;5*1@0-1;6*1@0-1;7*1@0-1");
        Check.due("length", x.count(16), 55);
        Check.due("seven sites", x.readSites(), 7);
        Check.due("the seventh", x.site(6, 0), 7);
        Check.typeAll(x, ";8*1@");
        Check.due("length", x.count(16), 60);
        Check.due("sixty characters that end too early", x.readSites(), -160);
        Check.retype(x, "1*10@100-200;2*10@100-200;3*10@100-200;4*10@100-200;5*1@0-99");
        Check.due("length", x.count(16), 60);
        Check.due("sixty characters", x.readSites(), 5);
        Check.due("the last one's until", x.site(11, 3), 99);
    }

    private static void badHours() {
        String[] bad = {"1*1@0-0", "1*1@5-5", "1*1@6-5", "1*1@999-999", "1*1@0-1;1*1@2-1", "1*1@2-1;1*1@0-1",
            "1*1@998-998", "9*99@999-0"};
        StormHire x = new StormHire();
        for (String text : bad) {
            Check.retype(x, text);
            Check.due("readSites() of " + text, x.readSites(), -2);
        }
        Check.due("nothing recorded", x.count(15), 0);
        Check.due("no sites", x.count(9), 0);
        x.pass(10);
        Check.retype(x, "1*1@0-10");
        Check.due("until the present hour", x.readSites(), -2);
        Check.retype(x, "1*1@0-11");
        Check.due("until the next hour", x.readSites(), 1);
        Check.retype(x, "1*1@5-4;1*1@");
        Check.due("the fault before bad hours", x.readSites(), -112);
    }

    private static void tooMany() {
        StormHire x = new StormHire();
        for (int i = 0; i < 10; i++) {
            x.addSite(1, 1, 0, 5);
        }
        Check.typeAll(x, "1*1@0-1;1*1@0-1;1*1@0-1");
        Check.due("no room for three", x.readSites(), -3);
        Check.due("all or none", x.count(9), 10);
        Check.retype(x, "1*1@0-1;1*1@0-0;1*1@0-1");
        Check.due("bad before full", x.readSites(), -2);
        Check.retype(x, "1*1@0-1;1*1@0-1;1*1@0-x");
        Check.due("the fault before full", x.readSites(), -122);
        Check.retype(x, "1*1@0-1;1*1@0-1");
        Check.due("room for two", x.readSites(), 2);
        Check.due("no room", x.readSites(), -3);
        Check.due("sites", x.count(9), 12);
    }
}
