import java.io.IOException;
import java.nio.file.Files;
import java.nio.file.Path;
import java.util.ArrayList;
import java.util.List;

/** The example of README.md: each call there is made here, in the same order, and answers what README.md tells. */
public final class ReadmeTest {
    private static final List<String> EXAMPLE = new ArrayList<>();
    private static int next = 0;

    public static void main(String[] args) throws IOException {
        readExample();
        StormHire hire = new StormHire();
        says("buy(500)", hire.buy(500));
        says("addSet(60, 100, 20, 0)", hire.addSet(60, 100, 20, 0));
        says("fill(0)", hire.fill(0));
        says("addSite(7, 50, 0, 6)", hire.addSite(7, 50, 0, 6));
        says("why(0)", hire.why(0));
        says("giveOut()", hire.giveOut());
        says("forecast(6, 0)", hire.forecast(6, 0));
        says("pass(2)", hire.pass(2));
        says("site(0, 7)", hire.site(0, 7));
        says("fuelRun()", hire.fuelRun());
        says("weather(-7)", hire.weather(-7));
        says("takeBack(0)", hire.takeBack(0));
        says("bring(0, 0)", hire.bring(0, 0));
        says("why(0)", hire.why(0));
        says("undo()", hire.undo());
        says("set(0, 5)", hire.set(0, 5));
        says("bring(0, 1)", hire.bring(0, 1));
        says("count(3)", hire.count(3));
        Check.due("all calls of the example are made", next, EXAMPLE.size());
        text();
        Check.end("ReadmeTest");
    }

    private static void readExample() throws IOException {
        for (String line : Files.readAllLines(Path.of("README.md"))) {
            if (line.startsWith("hire.")) {
                EXAMPLE.add(line);
            }
        }
    }

    /** A line of the example is the call, ";", "//", the answer, ":" and what it means. */
    private static void says(String call, int got) {
        String line = next < EXAMPLE.size() ? EXAMPLE.get(next) : "";
        next++;
        boolean same = line.startsWith("hire." + call + ";") && line.contains("// ");
        Check.holds("call " + next + " of the example is " + call, same);
        if (same) {
            String answer = line.substring(line.indexOf("// ") + 3);
            Check.due(call, got, Integer.parseInt(answer.substring(0, answer.indexOf(':'))));
        }
    }

    private static void text() throws IOException {
        String text = "9*40@3-8;5*12@0-24";
        Check.holds("the text is that of README.md", Files.readString(Path.of("README.md")).contains('`' + text + '`'));
        StormHire hire = new StormHire();
        Check.typeAll(hire, text);
        Check.due("readSites()", hire.readSites(), 2);
    }
}
