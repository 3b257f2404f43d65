import java.io.IOException;
import java.nio.file.Files;
import java.nio.file.Path;
import java.util.List;
import java.util.regex.Matcher;
import java.util.regex.Pattern;

/** What of LANGUAGE.md can be read off the source; run from the project's folder. */
public final class LanguageTest {
    private static final Due due = new Due("LanguageTest");
    private static final Path SOURCE = Path.of("src/main/java/BetMaker.java");

    public static void main(String[] args) throws IOException {
        String source = Files.readString(SOURCE);
        String code = source.replaceAll("(?s)/\\*.*?\\*/", " ").replaceAll("//[^\n]*", " ");
        due.holds("plain characters", source.chars().allMatch(c -> c < 128));
        absent(code);
        library(code);
        methodsAreShort(code);
        due.close();
    }

    private static void absent(String code) {
        String[] words = {"throw", "throws", "try", "catch", "finally", "synchronized", "assert",
            "package", "equals", "hashCode", "toString", "protected", "double", "float", "volatile",
            "native", "Random", "Thread", "\\w+Exact"};
        for (String word : words) {
            due.holds("no " + word, !Pattern.compile("\\b" + word + "\\b").matcher(code).find());
        }
        for (String sign : new String[] {"->", "::", "@", "\""}) {
            due.holds("no " + sign, !code.contains(sign));
        }
        due.holds("no static block", !Pattern.compile("static\\s*\\{").matcher(code).find());
    }

    private static void library(String code) {
        List<String> known = List.of("Arrays.fill", "Arrays.copyOf", "Arrays.copyOfRange",
            "Integer.bitCount", "Math.abs", "Math.min", "Math.max", "System.arraycopy",
            "Long.MIN_VALUE", "Long.MAX_VALUE");
        Matcher uses = Pattern.compile("\\b(Arrays|Integer|Long|Math|System|String|Object)\\.\\w+").matcher(code);
        while (uses.find()) {
            due.holds(uses.group() + " is allowed", known.contains(uses.group()));
        }
        Matcher imports = Pattern.compile("import [^;]*;").matcher(code);
        while (imports.find()) {
            due.holds(imports.group() + " is allowed", imports.group().equals("import java.util.Arrays;"));
        }
    }

    private static void methodsAreShort(String code) {
        Matcher heads = Pattern.compile("\\n( +)[^\\n;=.]*\\b\\w+\\(([^)\\n]*)\\) \\{\\n").matcher(code);
        while (heads.find()) {
            String indent = heads.group(1);
            int end = code.indexOf("\n" + indent + "}", heads.end() - 1);
            String body = end < 0 ? "" : code.substring(heads.end(), Math.max(end, heads.end()));
            due.holds("short: " + heads.group().trim(), body.lines().count() <= 60);
            due.holds("few arguments: " + heads.group().trim(), heads.group(2).split(",").length <= 7);
        }
    }
}
