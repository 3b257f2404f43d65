import java.io.IOException;
import java.lang.reflect.Method;
import java.lang.reflect.Modifier;
import java.nio.file.Files;
import java.nio.file.Path;
import java.util.List;
import java.util.stream.Stream;

/** README.md, as the class and its tests are now; run from the project's folder. */
public final class ReadmeTest {
    private static final Due due = new Due("ReadmeTest");
    private static final Path TESTS = Path.of("src/test/java");

    public static void main(String[] args) throws IOException {
        String readme = Files.readString(Path.of("README.md"));
        example();
        refusals();
        exampleIsThisOne(readme);
        tablesAreWhole(readme);
        due.close();
    }

    private static void example() {
        // README begins
        BetMaker m = new BetMaker();

        // The maker and a trader. Money is told in grains: U of them are 1, U is 4 B N.
        m.begin(3, 10);                    // three CASES, B 10
        long u = m.maker(3);               // 120
        int t = m.trader(0, 1000);         // 0: the first trader, a PLAIN one, with 1000 grains
        m.believe(t, 0, 9);                // he thinks CASE 0 nine times as likely as each other
        int x = (int) m.best(t, 1);        // 14 of the set {0}: sets are bits, 6 is {1, 2}
        long pays = m.quote(t, 1, x);      // 952
        int deals = m.deal(t, 1, x);       // 1: the first that he made
        int why = m.deal(t, 1, 50);        // -21: barred, a price would leave 0 .. U
        long worst = m.maker(2);           // -728: the maker's least gain, if it came true now
        m.comes(0);                        // CASE 0 came true: all are paid
        long purse = m.of(t, 0);           // 1728

        // The board: {0, 1} at 60 hundredths, up to 2 shares; {2} at 30, up to 3.
        int wide = m.offer(3, 60, 2);
        int narrow = m.offer(4, 30, 3);
        int sure = m.sure();               // 20 hundredths, whatever comes
        int shares = m.bundle(narrow);     // 2

        // A forecast is read off a sheet: here sheet 0, a row of three bytes (lane 0).
        m.sheet(0, 0, 3);
        m.put(0, 0, 8);
        m.put(0, 1, 1);
        m.put(0, 2, 1);
        int f = m.forecast(0, 0, 0, 0);    // 0: weights 8, 1, 1 from cell 0 on, and CASE 0 came
        long upper = m.score(f, 0);        // 47
        long lower = m.score(f, 1);        // 50
        long likely = m.held(0, 8, 2);     // 8 of 10: one forecast gave CASE 0 8 tenths, and it came
        // README ends
        due.is("u", u, 120);
        due.is("t", t, 0);
        due.is("x", x, 14);
        due.is("pays", pays, 952);
        due.is("deals", deals, 1);
        due.is("why", why, -21);
        due.is("worst", worst, -728);
        due.is("purse", purse, 1728);
        due.is("wide", wide, 0);
        due.is("narrow", narrow, 1);
        due.is("sure", sure, 20);
        due.is("shares", shares, 2);
        due.is("f", f, 0);
        due.is("upper", upper, 47);
        due.is("lower", lower, 50);
        due.is("likely", likely, 8);
    }

    /** One call for each row of the table of answers. */
    private static void refusals() {
        BetMaker m = new BetMaker();
        due.is("UNKNOWN", m.comes(2), -1);
        due.is("OUTSIDE", m.told(6), -2);
        due.is("nothing came", m.maker(4), -9);
        due.is("nothing is there", m.put(0, 0, 1), -11);
        due.is("NULL", m.fault(), 1);
        m.trader(0, 0);
        due.is("another kind", m.as(0, 1), -12);
        due.is("CAST", m.fault(), 2);
        m.sheet(0, 2, 1);
        due.is("no such cell", m.put(0, 1, 1), -13);
        due.is("INDEX", m.fault(), 3);
        due.is("a length below 0", m.sheet(0, 2, -1), -14);
        due.is("SIZE", m.fault(), 4);
        due.is("a price would leave", m.deal(0, 1, 1000), -21);
        due.is("the purse can't bear it", m.deal(0, 1, 1), -22);
        due.is("LOST", m.at(0, 1, 2), Due.LOST);
        for (int t = 1; t < 6; t++) {
            m.trader(0, 0);
        }
        due.is("FULL", m.trader(0, 0), -4);
        m.comes(0);
        due.is("it came true already", m.comes(0), -3);
        m.believe(0, 0, 0);
        due.is("all weights would be 0", m.believe(0, 1, 0), -3);
    }

    private static void exampleIsThisOne(String readme) throws IOException {
        String source = Files.readString(TESTS.resolve("ReadmeTest.java"));
        List<String> ran = between(source, "        // README begins\n", "        // README ends\n");
        List<String> shown = between(readme, "```java\n", "```\n");
        due.holds("the example is the one that was run", !shown.isEmpty() && shown.equals(ran));
    }

    private static List<String> between(String text, String from, String to) {
        int start = text.indexOf(from) + from.length();
        return text.substring(start, text.indexOf(to, start)).lines().map(String::strip).toList();
    }

    private static void tablesAreWhole(String readme) throws IOException {
        List<String> rows = readme.lines().filter(line -> line.startsWith("| `")).toList();
        for (Method method : BetMaker.class.getDeclaredMethods()) {
            if (Modifier.isPublic(method.getModifiers())) {
                due.holds(method.getName() + " is in a table", isIn(rows, method.getName()));
            }
        }
        try (Stream<Path> files = Files.list(TESTS)) {
            for (Path file : files.filter(f -> f.toString().endsWith("Test.java")).toList()) {
                String name = file.getFileName().toString().replace(".java", "");
                due.holds(name + " is in a table", isIn(rows, name));
            }
        }
    }

    private static boolean isIn(List<String> rows, String name) {
        return rows.stream().anyMatch(row -> row.contains("`" + name + "`"));
    }
}
