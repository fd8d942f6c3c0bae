import java.io.IOException;
import java.lang.reflect.Constructor;
import java.lang.reflect.Field;
import java.lang.reflect.Method;
import java.lang.reflect.Modifier;
import java.nio.file.Files;
import java.nio.file.Path;
import java.util.Set;
import java.util.TreeSet;
import java.util.regex.Pattern;

/** The face of the class is the document's, its constants have the document's values, and LANGUAGE.md is kept. */
public final class FaceTest {
    private static final String[] FACE = {"buy(int)", "weather(int)", "setPrice(int)", "addSet(int,int,int,int)",
        "fill(int)", "addSite(int,int,int,int)", "bring(int,int)", "takeBack(int)", "giveOut()", "swap()", "fuelRun()",
        "pass(int)", "type(char)", "clearText()", "readSites()", "undo()", "keep()", "restore()", "set(int,int)",
        "site(int,int)", "why(int)", "needy(int)", "thirsty(int)", "forecast(int,int)", "count(int)"};

    public static void main(String[] args) throws IOException {
        methods();
        fields();
        nested();
        sizes();
        source();
        objectsAreMadeAtTheStart();
        neverThrows();
        Check.end("FaceTest");
    }

    private static void methods() {
        Set<String> due = new TreeSet<>(Set.of(FACE));
        Set<String> names = new TreeSet<>();
        for (String method : FACE) {
            names.add(method.substring(0, method.indexOf('(')));
        }
        Set<String> found = new TreeSet<>();
        for (Method m : StormHire.class.getDeclaredMethods()) {
            if (m.isSynthetic()) {
                continue;
            }
            if (Modifier.isPublic(m.getModifiers())) {
                StringBuilder types = new StringBuilder();
                for (Class<?> type : m.getParameterTypes()) {
                    types.append(types.length() == 0 ? "" : ",").append(type.getSimpleName());
                }
                found.add(m.getName() + "(" + types + ")");
                Check.holds(m + " answers an int", m.getReturnType() == int.class);
            } else {
                Check.holds(m + " is private", Modifier.isPrivate(m.getModifiers()));
                Check.holds(m + " has a name of its own", !names.contains(m.getName()));
            }
        }
        Check.holds("the methods are the document's: " + found, found.equals(due));
        Constructor<?>[] made = StormHire.class.getDeclaredConstructors();
        Check.due("constructors", made.length, 1);
        Check.holds("it is public", Modifier.isPublic(made[0].getModifiers()));
        Check.due("parameters", made[0].getParameterCount(), 0);
        Check.holds("final", Modifier.isFinal(StormHire.class.getModifiers()));
    }

    private static void fields() {
        Check.due("UNKNOWN", StormHire.UNKNOWN, -1);
        Check.due("BAD_VALUE", StormHire.BAD_VALUE, -2);
        Check.due("FULL", StormHire.FULL, -3);
        Check.due("NOT_POSSIBLE", StormHire.NOT_POSSIBLE, -4);
        Check.due("NONE", StormHire.NONE, -5);
        Set<String> open = new TreeSet<>();
        for (Field f : StormHire.class.getDeclaredFields()) {
            if (!Modifier.isPrivate(f.getModifiers())) {
                open.add(f.getName());
            }
            Check.holds(f + " is final if it is static",
                !Modifier.isStatic(f.getModifiers()) || Modifier.isFinal(f.getModifiers()));
        }
        Check.holds("the constants are the document's: " + open,
            open.equals(Set.of("UNKNOWN", "BAD_VALUE", "FULL", "NOT_POSSIBLE", "NONE")));
    }

    private static void nested() {
        for (Class<?> c : StormHire.class.getDeclaredClasses()) {
            Check.holds(c + " is static", Modifier.isStatic(c.getModifiers()));
            Check.holds(c + " is not public",
                !Modifier.isPublic(c.getModifiers()) && !Modifier.isProtected(c.getModifiers()));
        }
    }

    /** LANGUAGE.md, 11: how many classes, fields and parameters there may be. */
    private static void sizes() {
        Class<?>[] inside = StormHire.class.getDeclaredClasses();
        Check.holds("at most twelve classes", inside.length < 12);
        sizes(StormHire.class);
        for (Class<?> c : inside) {
            sizes(c);
        }
    }

    private static void sizes(Class<?> c) {
        int fields = 0;
        for (Field f : c.getDeclaredFields()) {
            fields += Modifier.isStatic(f.getModifiers()) ? 0 : 1;
        }
        Check.holds(c + " has at most twenty fields", fields <= 20);
        for (Method m : c.getDeclaredMethods()) {
            Check.holds(m + " has at most seven parameters", m.getParameterCount() <= 7);
        }
    }

    /** All calls of a run share one room, so that an object makes its rows when it is made, and none later. */
    private static void objectsAreMadeAtTheStart() throws IOException {
        Set<String> classes = new TreeSet<>(Set.of("StormHire"));
        for (Class<?> c : StormHire.class.getDeclaredClasses()) {
            classes.add(c.getSimpleName());
        }
        Pattern header = Pattern.compile("(?: {4}| {8})(?:\\w+(?:\\[])? )*(\\w+)\\(.*\\) \\{");
        String around = "";
        for (String line : Files.readAllLines(Path.of("src/main/java/StormHire.java"))) {
            java.util.regex.Matcher begins = header.matcher(line);
            boolean isField = line.matches(" *private final .*");
            around = begins.matches() && !begins.group(1).matches("if|for|while|switch") ? begins.group(1) : around;
            if (!isField && line.matches(".*\\bnew\\b.*") && !line.strip().startsWith("/")) {
                Check.holds("no object is made in " + around, classes.contains(around));
            }
        }
        Check.holds("the methods are found up to the last: " + around, around.equals("skip"));
    }

    private static void source() throws IOException {
        String source = Files.readString(Path.of("src/main/java/StormHire.java"));
        String[] forbidden = {"throw", "try", "catch", "synchronized", "assert", "import", "package", "native",
            "volatile", "transient", "System", "Object", "Exception", "equals", "hashCode", "toString", "->", "::",
            "protected", "var", "goto", "addExact", "subtractExact", "multiplyExact",
            "negateExact", "toIntExact", "incrementExact", "decrementExact", "random"};
        for (String word : forbidden) {
            String sign = Pattern.quote(word);
            boolean isWord = Character.isLetter(word.charAt(0));
            Check.holds("the source is without " + word,
                !Pattern.compile(isWord ? "\\b" + sign + "\\b" : sign).matcher(source).find());
        }
    }

    /** Any arguments in any state, and beyond the 512th call. */
    private static void neverThrows() {
        java.util.Random random = new java.util.Random(7);
        int[] odd = {Integer.MIN_VALUE, Integer.MIN_VALUE + 1, -101, -6, -5, -1, 0, 1, 2, 9, 10, 11, 12, 24, 60, 999,
            5000, 50000, Integer.MAX_VALUE - 1, Integer.MAX_VALUE};
        for (int run = 0; run < 40; run++) {
            StormHire x = new StormHire();
            for (int call = 0; call < 5000; call++) {
                call(x, random, odd);
            }
        }
    }

    private static void call(StormHire x, java.util.Random random, int[] odd) {
        int[] v = new int[4];
        for (int i = 0; i < v.length; i++) {
            v[i] = random.nextInt(3) == 0 ? odd[random.nextInt(odd.length)] : random.nextInt(30);
        }
        switch (random.nextInt(25)) {
            case 0: x.buy(v[0]); break;
            case 1: x.weather(v[0]); break;
            case 2: x.setPrice(v[0]); break;
            case 3: x.addSet(v[0], v[1], v[2], v[3]); break;
            case 4: x.fill(v[0]); break;
            case 5: x.addSite(v[0], v[1], v[2], v[3]); break;
            case 6: x.bring(v[0], v[1]); break;
            case 7: x.takeBack(v[0]); break;
            case 8: x.giveOut(); break;
            case 9: x.swap(); break;
            case 10: x.fuelRun(); break;
            case 11: x.pass(v[0]); break;
            case 12: x.type((char) v[0]); break;
            case 13: x.clearText(); break;
            case 14: Check.retype(x, "9*1@0-99;8*2@1-999;7*3@2-998"); break;
            case 15: x.readSites(); break;
            case 16: x.undo(); break;
            case 17: x.keep(); break;
            case 18: x.restore(); break;
            case 19: x.set(v[0], v[1]); break;
            case 20: x.site(v[0], v[1]); break;
            case 21: x.why(v[0]); break;
            case 22: x.needy(v[0]); x.thirsty(v[0]); break;
            case 23: x.forecast(v[0], v[1]); break;
            default: x.count(v[0]); break;
        }
    }
}
