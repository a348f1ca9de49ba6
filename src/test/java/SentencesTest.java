import java.io.IOException;
import java.nio.file.Files;
import java.nio.file.Path;
import java.util.ArrayList;
import java.util.List;
import java.util.regex.Matcher;
import java.util.regex.Pattern;
import java.util.stream.Stream;

/** That each sentence of the document that names a boundary case is named by a test of its own. */
public final class SentencesTest {
    private static final Pattern NAMED = Pattern.compile(
        "Check\\.of\\((\\d+), (\"(?:[^\"\\\\]|\\\\.)*\"(?:\\s*\\+\\s*\"(?:[^\"\\\\]|\\\\.)*\")*)\\)");
    private static final Pattern REFUSAL = Pattern.compile("\\b(?:UNKNOWN|OUTSIDE|STATE|FULL)\\b(?::[^;.]*)?");
    private static final Pattern NO_ANSWER = Pattern.compile("\\bNONE: [^;.]*|[A-Za-z ]+ \\(NONE\\)");
    private static final Pattern LIMIT = Pattern.compile("\\([^()]*\\d[^()]*\\)");
    private static final String[] TERMS = {
        "STATIONS 0 to 5 lie on a line", "at most 512 calls", "two to seven SINGLES", "with \",\" between",
        "the HAND (0 left, 1 right)", "the SIZE (0 to 9)", "the STATION (0 to 5)",
        "At first there is none; then none are PAIRED", "a MITTEN is a GLOVE, too", "of the other HAND",
        "if that one is a GLOVE besides", "whatever the HANDS", "if it is of the same SIZE",
        "if each TAKES the other one", "rounded down", "18 less how far APART", "Two at one STATION",
        "Who PARTS leaves both alone again", "In MAY all PAIRS PART", "but not the one that it had",
        "who finds none stays alone", "those that are PAIRED now are left out of it (none)",
        "none ahead of all", "the ROW of most PAIRS", "BEST for so many MILES (0 to 30)",
        "no more MILES are needed", "of these with fewest MILES", "of like ones the lesser number",
        "no two that MAY be PAIRED, and are not", "each of which would be alone", "no farther than 1 MILE",
        "of like ones the least; how many",
        "where any lies that is not PAIRED", "0 of 1, if there are fewer than two", "SEEN (8 at most)",
        "of which the SIZE is not known", "SIZES (0 to 9)", "with which other one to compare it",
        "fewest of these are left at worst",
        "of like ones the least; none, if there are none", "neither is PAIRED (now, or by what was drawn)",
        "its rest by 2 to the 31", "by 65536 (rounded down), its rest", "An IMAGE keeps",
        "Refusals, of several the first as told by each call", "they change nothing"};

    public static void main(String[] args) throws IOException {
        List<List<String>> named = named();
        for (String words : TERMS) {
            dueNamed(named, 0, words);
        }
        for (int promise = 1; promise <= Doc.PROMISES; promise++) {
            Check.due("sentences of promise " + promise, named.get(promise).isEmpty() ? 0 : 1, 1);
            for (Pattern kind : new Pattern[] {REFUSAL, NO_ANSWER, LIMIT}) {
                Matcher at = kind.matcher(wordsOf(promise));
                while (at.find()) {
                    dueNamed(named, promise, at.group().strip());
                }
            }
        }
        Check.end("SentencesTest");
    }

    /** A promise's words without the call's own line of code. */
    private static String wordsOf(int promise) {
        return Doc.section(promise).replaceAll("`[^`]*`", "");
    }

    private static void dueNamed(List<List<String>> named, int promise, String words) {
        Check.due("\"" + words + "\" in the document, " + promise, Doc.says(promise, words) ? 1 : 0, 1);
        boolean found = named.get(promise).stream().anyMatch(sentence -> sentence.contains(words));
        Check.due("\"" + words + "\" of promise " + promise + " in a test", found ? 1 : 0, 1);
    }

    private static List<List<String>> named() throws IOException {
        List<List<String>> named = new ArrayList<>();
        for (int promise = 0; promise <= Doc.PROMISES; promise++) {
            named.add(new ArrayList<>());
        }
        try (Stream<Path> files = Files.list(Path.of("src/test/java"))) {
            for (Path file : files.filter(path -> path.toString().endsWith("Test.java")).toList()) {
                Matcher at = NAMED.matcher(Files.readString(file));
                while (at.find()) {
                    String words = at.group(2).replaceAll("\"\\s*\\+\\s*\"", "");
                    words = words.substring(1, words.length() - 1).replace("\\\"", "\"");
                    named.get(Integer.parseInt(at.group(1))).add(words);
                }
            }
        }
        return named;
    }
}
