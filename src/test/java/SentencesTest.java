import java.io.IOException;
import java.nio.file.Files;
import java.nio.file.Path;
import java.util.ArrayList;
import java.util.LinkedHashMap;
import java.util.List;
import java.util.Map;
import java.util.regex.Matcher;
import java.util.regex.Pattern;
import java.util.stream.Collectors;
import java.util.stream.Stream;

/**
 * Above each test of a bound stands the sentence of the document that it is about ("// DOC", the part, a colon). Here it is
 * looked whether each of these stands in the document, and whether none of the document's terms and promises is left out.
 */
public final class SentencesTest {
    private static final Path DOCUMENT = Path.of("../shared/DOC.md");
    private static final Path TESTS = Path.of("src/test/java");

    public static void main(String[] args) throws IOException {
        Map<String, String> parts = parts(Files.readString(DOCUMENT));
        Check.due("parts of the document", parts.size(), 4 + 52);
        Map<String, boolean[]> told = new LinkedHashMap<>();
        for (Map.Entry<String, String> part : parts.entrySet()) {
            told.put(part.getKey(), new boolean[part.getValue().length()]);
        }
        for (String[] quote : quotes()) {
            mark(parts, told, quote[0], quote[1]);
        }
        for (Map.Entry<String, String> part : parts.entrySet()) {
            String left = untold(part.getValue(), told.get(part.getKey()));
            Check.holds("part " + part.getKey() + " has a test for each sentence, but for: " + left, left.isEmpty());
        }
        Check.end("SentencesTest");
    }

    /** The terms (T0 ahead of section 1, then T1 to T3) and the promises (by number), each as one line. */
    private static Map<String, String> parts(String document) {
        Map<String, String> parts = new LinkedHashMap<>();
        Matcher terms = Pattern.compile("## Terms\\s(.*?)======== 1 THE FORT:(.*?)======== 2(.*?)======== 3(.*?)Ahead of the calls",
            Pattern.DOTALL).matcher(document);
        if (terms.find()) {
            for (int i = 0; i <= 3; i++) {
                parts.put("T" + i, line(terms.group(i + 1)));
            }
        }
        Matcher promises = Pattern.compile("## Promise (\\d+): [^\\n]*\\n+`[^`]*`: ([^\\n]*)\\n").matcher(document);
        while (promises.find()) {
            parts.put(promises.group(1), line(promises.group(2)));
        }
        return parts;
    }

    private static String line(String text) {
        return text.replaceAll("```(text)?", " ").replaceAll("\\s+", " ").trim();
    }

    private static List<String[]> quotes() throws IOException {
        List<Path> files;
        try (Stream<Path> all = Files.list(TESTS)) {
            files = all.filter(f -> f.toString().endsWith("Test.java")).sorted().collect(Collectors.toList());
        }
        List<String[]> quotes = new ArrayList<>();
        Pattern quote = Pattern.compile("^ +// DOC (\\w+): (.*)$", Pattern.MULTILINE);
        for (Path file : files) {
            Matcher m = quote.matcher(Files.readString(file));
            while (m.find()) {
                quotes.add(new String[] {m.group(1), line(m.group(2))});
            }
        }
        return quotes;
    }

    private static void mark(Map<String, String> parts, Map<String, boolean[]> told, String part, String quote) {
        String text = parts.getOrDefault(part, "");
        int at = text.indexOf(quote);
        Check.holds("part " + part + " says: " + quote, at >= 0);
        // a short sentence may stand there twice ("iron: 0." doesn't): the first that no test has taken yet
        while (at >= 0 && told.get(part)[at]) {
            int next = text.indexOf(quote, at + 1);
            if (next < 0) {
                break;
            }
            at = next;
        }
        for (int i = Math.max(0, at); at >= 0 && i < at + quote.length(); i++) {
            told.get(part)[i] = true;
        }
    }

    private static String untold(String text, boolean[] told) {
        StringBuilder left = new StringBuilder();
        for (int i = 0; i < text.length(); i++) {
            left.append(told[i] ? ' ' : text.charAt(i));
        }
        return left.toString().replaceAll("\\s+", " ").trim();
    }
}
