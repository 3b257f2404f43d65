import java.io.IOException;
import java.nio.file.Files;
import java.nio.file.Path;
import java.util.ArrayList;
import java.util.List;
import java.util.Map;
import java.util.TreeMap;
import java.util.regex.Matcher;
import java.util.regex.Pattern;
import java.util.stream.Stream;

/**
 * Holds the tests against the document: what they quote stands there, to the
 * letter, and each of its sentences is quoted. Run from the project's folder.
 */
public final class SentencesTest {
    private static final Due due = new Due("SentencesTest");
    private static final Path DOCUMENT = Path.of("../shared/DOC.md");
    private static final Path TESTS = Path.of("src/test/java");
    private static final String SAID = "due\\.sentence\\(";
    private static final int PROMISES = 33;
    /** What it is for, and where its calls stand: nothing there can be asked of an object. */
    private static final List<String> NOT_ASKED = List.of("Bets that tell:", "Ahead of the calls ");

    private record Quote(String test, List<Integer> promises, String text) { }

    public static void main(String[] args) throws IOException {
        Map<Integer, String> promises = new TreeMap<>();
        String terms = read(Files.readString(DOCUMENT), promises);
        List<Quote> quotes = quotes();
        due.is("promises in the document", promises.size(), PROMISES);
        eachQuoteStands(quotes, terms, promises);
        eachPromiseIsNamed(quotes);
        eachSentenceIsQuoted(quotes, terms);
        for (int p = 1; p <= PROMISES; p++) {
            eachSentenceIsQuoted(quotesOf(quotes, p), promises.getOrDefault(p, ""));
        }
        due.close();
    }

    /** What is told ahead of the promises; these go to the map, without the heads of their calls. */
    private static String read(String document, Map<Integer, String> promises) {
        StringBuilder terms = new StringBuilder();
        for (String section : document.split("(?m)^## ")) {
            String body = plain(section.substring(section.indexOf('\n') + 1));
            Matcher promise = Pattern.compile("Promise (\\d+):").matcher(section);
            if (promise.lookingAt()) {
                promises.put(Integer.parseInt(promise.group(1)), body.replaceFirst("^`[^`]*`: ", ""));
            } else if (section.startsWith("Terms") || section.startsWith("What it is")) {
                terms.append(body).append(' ');
            }
        }
        return terms.toString();
    }

    private static String plain(String text) {
        return text.replaceAll("(?m)^```.*$", " ").replaceAll("(?m)^==== \\d ", " ").replaceAll("\\s+", " ").trim();
    }

    private static List<Quote> quotes() throws IOException {
        List<Path> files;
        try (Stream<Path> all = Files.list(TESTS)) {
            files = all.filter(f -> f.toString().endsWith("Test.java")).sorted().toList();
        }
        List<Quote> quotes = new ArrayList<>();
        Pattern said = Pattern.compile("\n        " + SAID + "\"([\\d, ]+)\",\\s*((?:\"[^\"]*\"[\\s+]*)+)\\);");
        for (Path file : files) {
            String source = Files.readString(file);
            int before = quotes.size();
            Matcher found = said.matcher(source);
            while (found.find()) {
                quotes.add(new Quote(file.getFileName().toString(), numbers(found.group(1)), joined(found.group(2))));
            }
            due.is("quotes that could be read in " + file, quotes.size() - before, source.split(SAID, -1).length - 1);
        }
        return quotes;
    }

    private static List<Integer> numbers(String list) {
        return Stream.of(list.split(", ")).map(Integer::valueOf).toList();
    }

    private static String joined(String texts) {
        Matcher parts = Pattern.compile("\"([^\"]*)\"").matcher(texts);
        StringBuilder all = new StringBuilder();
        while (parts.find()) {
            all.append(parts.group(1));
        }
        return all.toString();
    }

    private static List<Quote> quotesOf(List<Quote> quotes, int promise) {
        return quotes.stream().filter(q -> q.promises.contains(promise)).toList();
    }

    private static void eachQuoteStands(List<Quote> quotes, String terms, Map<Integer, String> promises) {
        for (Quote quote : quotes) {
            boolean stands = terms.contains(quote.text);
            for (int p : quote.promises) {
                stands |= promises.getOrDefault(p, "").contains(quote.text);
            }
            due.holds(quote + " stands in the document", stands);
        }
    }

    private static void eachPromiseIsNamed(List<Quote> quotes) {
        for (int p = 1; p <= PROMISES; p++) {
            due.holds("promise " + p + " is named", !quotesOf(quotes, p).isEmpty());
        }
    }

    private static void eachSentenceIsQuoted(List<Quote> quotes, String text) {
        // A full stop ends a sentence, the two of '0 .. 3' do not.
        for (String sentence : text.split("(?<=[^. ]\\.) ")) {
            boolean quoted = NOT_ASKED.stream().anyMatch(sentence::startsWith)
                || quotes.stream().anyMatch(q -> sentence.contains(q.text) || q.text.contains(sentence));
            due.holds("'" + sentence + "' is quoted by a test", quoted);
        }
    }
}
