import java.util.Arrays;

/** Promises 17 to 19 (undo, keep, restore), and what the history records of each call. */
public final class HistoryTest {
    public static void main(String[] args) {
        undo();
        undoIsDeep();
        keep();
        restore();
        errorsChangeNothing();
        Check.end("HistoryTest");
    }

    private static void undo() {
        StormHire x = new StormHire();
        Check.due("undo() of nothing", x.undo(), -5);
        for (int i = 1; i <= 7; i++) {
            x.buy(1);
            Check.due("history", x.count(15), Math.min(i, 5));
        }
        for (int i = 4; i >= 0; i--) {
            Check.due("undo()", x.undo(), i);
            Check.due("depot", x.count(3), i + 2);
        }
        Check.due("undo() of an empty history", x.undo(), -5);
        Check.due("depot", x.count(3), 2);
        x.buy(10);
        Check.due("undo() after new ones", x.undo(), 0);
        Check.due("depot", x.count(3), 2);
        for (int round = 0; round < 9; round++) {
            x.buy(100);
            x.buy(10);
            x.undo();
        }
        Check.due("depot", x.count(3), 902);
        Check.due("undo() after many of both", x.undo(), 3);
        Check.due("undo() after many of both", x.undo(), 2);
        Check.due("depot", x.count(3), 702);
    }

    /** One of each act, all taken back one by one. */
    private static void undoIsDeep() {
        for (int act = 0; act < 14; act++) {
            StormHire x = busy();
            int[] before = Check.everything(x);
            int answer = act(x, act);
            Check.holds("act " + act + " is one, and answered " + answer, answer >= 0);
            Check.due("recorded", x.count(15), 5);
            Check.holds("act " + act + " changes something", !Arrays.equals(before, Check.everything(x)));
            Check.due("undo()", x.undo(), 4);
            before[15] = 4;
            Check.holds("act " + act + " is undone", Arrays.equals(before, Check.everything(x)));
        }
    }

    private static StormHire busy() {
        StormHire x = new StormHire();
        Check.fullSet(x, 80, 100, 20, 10);
        Check.fullSet(x, 40, 100, 20, 0);
        x.addSet(30, 50, 10, 0);
        x.addSite(2, 25, 0, 20);
        x.addSite(7, 35, 0, 20);
        x.addSite(1, 35, 0, 99);
        x.keep();
        x.bring(0, 0);
        x.bring(1, 1);
        x.pass(1);
        Check.retype(x, "9*79@0-4;1*28@0-9");
        x.readSites();
        return x;
    }

    private static int act(StormHire x, int act) {
        switch (act) {
            case 0: return x.buy(3);
            case 1: return x.weather(-30);
            case 2: return x.setPrice(99);
            case 3: return x.addSet(1, 10, 1, 0);
            case 4: return x.fill(2);
            case 5: return x.addSite(1, 1, 1, 2);
            case 6: return x.bring(2, 4);
            case 7: return x.takeBack(1);
            case 8: return x.giveOut();
            case 9: return x.swap();
            case 10: return x.fuelRun();
            case 11: return x.pass(24);
            case 12: return x.readSites();
            default: return x.restore();
        }
    }

    private static void keep() {
        StormHire x = new StormHire();
        Check.due("keep() at first", x.keep(), 0);
        Check.due("no act", x.count(15), 0);
        x.pass(7);
        Check.due("keep()", x.keep(), 7);
        x.buy(5);
        Check.due("keep() in place of it", x.keep(), 7);
        x.undo();
        Check.due("depot", x.count(3), 0);
        Check.due("restore()", x.restore(), 7);
        Check.due("the latest snapshot", x.count(3), 5);
    }

    private static void restore() {
        StormHire x = new StormHire();
        Check.due("restore() of none", x.restore(), -5);
        Check.due("nothing recorded", x.count(15), 0);
        x = busy();
        int[] kept = Check.everything(x);
        x.keep();
        x.takeBack(0);
        x.pass(9);
        x.weather(-7);
        x.setPrice(7);
        x.addSite(1, 1, 20, 21);
        x.addSet(1, 10, 1, 0);
        Check.retype(x, "abc");
        Check.due("restore()", x.restore(), 1);
        int[] restored = Check.everything(x);
        Check.due("the text is not restored", restored[16], 3);
        kept[16] = 3;
        Check.due("the history is not restored", restored[15], 5);
        kept[15] = 5;
        Check.holds("all else is", Arrays.equals(kept, restored));
        Check.due("undo() of the restore", x.undo(), 4);
        Check.due("sets", x.count(7), 4);
        Check.due("hour", x.count(0), 10);
        Check.due("it stays", x.restore(), 1);
        Check.due("it stays", x.restore(), 1);
        Check.due("an act even without a change", x.count(15), 5);
        x.undo();
        Check.due("hour", x.count(0), 1);
    }

    private static void errorsChangeNothing() {
        StormHire x = busy();
        x.undo();
        Check.due("swap(), so that the yard is empty", x.swap(), 200);
        int[] before = Check.everything(x);
        int[] answers = {x.buy(0), x.weather(5), x.weather(99), x.setPrice(10), x.setPrice(0), x.addSet(0, 0, 0, 0),
            x.fill(0), x.fill(1), x.fill(9), x.fill(-1), x.addSite(0, 0, 0, 0), x.bring(0, 0), x.bring(2, 2),
            x.bring(9, 9), x.takeBack(3), x.takeBack(-1), x.giveOut(), x.swap(), x.pass(0), x.pass(25)};
        for (int i = 0; i < answers.length; i++) {
            Check.holds("call " + i + " answers an error or NONE: " + answers[i], answers[i] < 0);
        }
        Check.holds("errors change nothing", Arrays.equals(before, Check.everything(x)));
    }
}
