/** Counts the answers that are not the due ones, and ends the run with exit code 1 if there were any. */
final class Check {
    private static int wrong = 0;
    private static int asked = 0;

    private Check() {
    }

    static void due(String call, long got, long want) {
        asked++;
        if (got != want) {
            wrong++;
            if (wrong <= 50) {
                System.out.println(call + " answered " + got + ", due is " + want);
            }
        }
    }

    static void holds(String claim, boolean truth) {
        due(claim, truth ? 1 : 0, 1);
    }

    static void end(String name) {
        System.out.println(name + ": " + asked + " answers, " + wrong + " wrong");
        if (wrong != 0) {
            System.exit(1);
        }
    }

    /** Every number that an object tells without being changed, in one row: up to the first unknown set and site. */
    static int[] everything(StormHire x) {
        java.util.ArrayList<Integer> told = new java.util.ArrayList<>();
        for (int what = 0; what <= 16; what++) {
            told.add(x.count(what));
        }
        for (int set = 0; set <= told.get(7); set++) {
            for (int what = 0; what <= 9; what++) {
                told.add(x.set(set, what));
            }
        }
        for (int site = 0; site <= told.get(9); site++) {
            for (int what = 0; what <= 9; what++) {
                told.add(x.site(site, what));
            }
            told.add(x.why(site));
            told.add(x.needy(site));
            told.add(x.thirsty(site));
        }
        for (int what = 0; what <= 3; what++) {
            told.add(x.forecast(1, what));
            told.add(x.forecast(24, what));
        }
        return told.stream().mapToInt(Integer::intValue).toArray();
    }

    /** Types the text behind what stands there. */
    static void typeAll(StormHire x, String text) {
        for (int i = 0; i < text.length(); i++) {
            x.type(text.charAt(i));
        }
    }

    /** Empties the text and types another. */
    static void retype(StormHire x, String text) {
        x.clearText();
        typeAll(x, text);
    }

    /** A set with a full tank, which lies in the yard. */
    static int fullSet(StormHire x, int power, int tank, int burn, int limit) {
        int set = x.addSet(power, tank, burn, limit);
        if (x.count(3) < tank) {
            x.buy(5000);
        }
        x.fill(set);
        return set;
    }
}
