import java.io.IOException;
import java.nio.file.Files;
import java.nio.file.Path;
import java.util.ArrayList;
import java.util.Arrays;
import java.util.LinkedHashMap;
import java.util.List;
import java.util.Map;
import java.util.regex.Matcher;
import java.util.regex.Pattern;

/**
 * Holds the tests' words against the document: all that a test says by Due.of stands there, in the part that it names,
 * and each word of the Terms and of the promises stands in what some test says.
 */
final class SentencesTest {
    private static final Due DUE = new Due("SentencesTest");
    private static final Path DOCUMENT = Path.of("../shared/DOC.md");
    private static final Path TESTS = Path.of("src/test/java");
    // This part tells about the whole; what it promises by itself is the last call's number.
    private static final String WHOLE = "What it is";
    private static final int PARTS = 46;

    /** A part of the document, and which of its signs stand in what some test says. */
    private static final class Part {
        final String words;
        final boolean[] said;

        Part(String words) {
            this.words = words;
            this.said = new boolean[words.length()];
        }

        boolean says(String quote) {
            boolean found = false;
            for (int at = words.indexOf(quote); at >= 0; at = words.indexOf(quote, at + 1)) {
                int end = at + quote.length();
                if (!cutsWord(at) && !cutsWord(end)) {
                    Arrays.fill(said, at, end, true);
                    found = true;
                }
            }
            return found;
        }

        private boolean cutsWord(int at) {
            return at > 0 && at < words.length() && isWord(words.charAt(at - 1)) && isWord(words.charAt(at));
        }

        private static boolean isWord(char sign) {
            return Character.isLetterOrDigit(sign);
        }

        String unsaid() {
            StringBuilder left = new StringBuilder();
            for (int i = 0; i < said.length; i++) {
                left.append(said[i] || !isWord(words.charAt(i)) ? ' ' : words.charAt(i));
            }
            return left.toString().replaceAll(" +", " ").trim();
        }
    }

    public static void main(String[] args) throws IOException {
        if (!Files.isReadable(DOCUMENT)) {
            System.out.println("SentencesTest: there is no " + DOCUMENT + " to hold the tests against");
            return;
        }
        Map<String, Part> parts = parts(Files.readAllLines(DOCUMENT));
        DUE.is("parts of the document", parts.size(), PARTS);
        for (Path test : tests()) {
            sentencesOf(test, parts);
        }
        for (Map.Entry<String, Part> part : parts.entrySet()) {
            if (!part.getKey().equals(WHOLE)) {
                DUE.same("what no test says of " + part.getKey(), part.getValue().unsaid(), "");
            }
        }
        DUE.end();
    }

    private static List<Path> tests() throws IOException {
        List<Path> all = new ArrayList<>();
        try (var files = Files.newDirectoryStream(TESTS, "*Test.java")) {
            files.forEach(all::add);
        }
        all.removeIf(path -> path.getFileName().toString().equals("SentencesTest.java"));
        return all;
    }

    private static void sentencesOf(Path test, Map<String, Part> parts) throws IOException {
        String source = Files.readString(test);
        Map<String, String> constants = new LinkedHashMap<>();
        Matcher constant = Pattern.compile("static final String (\\w+) = \"([^\"]+)\";").matcher(source);
        while (constant.find()) {
            constants.put(constant.group(1), constant.group(2));
        }
        Matcher said = Pattern.compile("DUE\\.of\\((?:\"([^\"]+)\"|(\\w+)), \"([^\"]+)\"\\)").matcher(source);
        int read = 0;
        while (said.find()) {
            read++;
            String place = said.group(1) != null ? said.group(1) : constants.get(said.group(2));
            Part part = parts.get(place);
            DUE.is(test.getFileName() + " says of " + place + " \"" + said.group(3) + "\"",
                part != null && part.says(said.group(3)) ? 1 : 0, 1);
        }
        DUE.is(test.getFileName() + ", sentences read", read, source.split("DUE\\.of\\(", -1).length - 1);
    }

    private static Map<String, Part> parts(List<String> lines) {
        Map<String, StringBuilder> texts = new LinkedHashMap<>();
        StringBuilder text = new StringBuilder();
        for (String line : lines) {
            String place = placeBegunBy(line);
            if (place != null) {
                text = new StringBuilder();
                texts.put(place, text);
            }
            if (!line.startsWith("```")) {
                text.append(' ').append(wordsOf(line));
            }
        }
        Map<String, Part> parts = new LinkedHashMap<>();
        for (Map.Entry<String, StringBuilder> one : texts.entrySet()) {
            if (!one.getKey().isEmpty()) {
                parts.put(one.getKey(), new Part(one.getValue().toString().replaceAll("\\s+", " ").trim()));
            }
        }
        return parts;
    }

    // The part's name; "" for a part that tests needn't speak of.
    private static String placeBegunBy(String line) {
        Matcher promise = Pattern.compile("## (Promise \\d+): .*").matcher(line);
        if (promise.matches()) {
            return promise.group(1);
        }
        Matcher term = Pattern.compile("==== \\d+\\. ([A-Z ]*[A-Z])\\b.*").matcher(line);
        if (term.matches()) {
            return term.group(1);
        }
        if (line.startsWith("REFUSALS (")) {
            return "REFUSALS";
        }
        if (line.startsWith("Details. ")) {
            return "Details";
        }
        return line.startsWith("## ") ? line.equals("## " + WHOLE) ? WHOLE : "" : null;
    }

    private static String wordsOf(String line) {
        return line.replaceFirst("^## .*", "").replaceFirst("^==== \\d+\\. [A-Z ]*[A-Z]\\b", "")
            .replaceFirst("^REFUSALS ", "").replaceFirst("^Details\\. ", "").replaceFirst("^`[^`]*`: ", "");
    }
}
