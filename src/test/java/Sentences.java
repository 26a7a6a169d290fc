import java.io.IOException;
import java.nio.charset.StandardCharsets;
import java.nio.file.Files;
import java.nio.file.Path;
import java.util.Map;
import java.util.TreeMap;
import java.util.regex.Matcher;
import java.util.regex.Pattern;

/**
 * A test that goes through parts of the document sentence by sentence: each one is quoted by says(), with its checks
 * behind it. A quote that the document does not have, one without a check, and words of a part that no quote has are
 * told as faults, so that no sentence is left without a test.
 */
abstract class Sentences extends Checks {
    private static final Path DOCUMENT = Path.of("../shared/DOC.md");
    // What is quoted is struck out by this sign, which the document does not have.
    private static final char STRUCK = '#';
    private static final Map<String, StringBuilder> PARTS = new TreeMap<>();
    private static final Map<String, StringBuilder> OPENED = new TreeMap<>();
    private static StringBuilder part;
    private static String quote;
    private static int askedBefore;

    private static void read() {
        String text;
        try {
            text = Files.readString(DOCUMENT, StandardCharsets.UTF_8);
        } catch (IOException e) {
            fail("the document can't be read: " + e);
            return;
        }
        Matcher promises = Pattern.compile("## (Promise \\d+): [^\n]*\\n+`[^`]*`:(.*?)(?=\\n## )", Pattern.DOTALL).matcher(text);
        while (promises.find()) {
            keep(promises.group(1), promises.group(2));
        }
        keep("Term I", between(text, "\nI. ", "\nII. "));
        keep("Term II", between(text, "\nII. ", "\nIII. "));
        keep("Term III", between(text, "\nIII. ", "\nThe constants:"));
        keep("Constants", between(text, "\nThe constants:", "\nAhead of the calls"));
    }

    private static String between(String text, String from, String to) {
        int begin = text.indexOf(from);
        int end = text.indexOf(to, Math.max(0, begin));
        if (begin < 0 || end < 0) {
            fail("the document has no part from" + from);
            return "";
        }
        return text.substring(begin + from.length(), end);
    }

    private static void keep(String name, String words) {
        PARTS.put(name, new StringBuilder(words.replace("```text", "").replace("```", "").replaceAll("\\s+", " ").trim()));
    }

    /** How many promises the document has. */
    static int promises() {
        if (PARTS.isEmpty()) {
            read();
        }
        return PARTS.size() - 4;
    }

    static void section(String name) {
        if (PARTS.isEmpty()) {
            read();
        }
        endQuote();
        part = PARTS.get(name);
        if (part == null) {
            fail("the document has no " + name);
            part = new StringBuilder();
        }
        OPENED.put(name, part);
    }

    /** The checks behind it are those of these words. */
    static void says(String words) {
        endQuote();
        int at = part.indexOf(words);
        if (at < 0) {
            fail("the document does not say here: " + words);
        } else {
            part.replace(at, at + words.length(), String.valueOf(STRUCK).repeat(words.length()));
        }
        quote = words;
        askedBefore = asked();
    }

    private static void endQuote() {
        if (quote != null && asked() == askedBefore) {
            fail("without a check: " + quote);
        }
        quote = null;
    }

    /** Are so many sections opened, and all their words quoted? */
    static void whole(int sections) {
        endQuote();
        if (OPENED.size() != sections) {
            fail(OPENED.size() + " parts of the document are tested, not " + sections);
        }
        for (Map.Entry<String, StringBuilder> one : OPENED.entrySet()) {
            String left = one.getValue().toString().replace(STRUCK, ' ').trim();
            if (!left.isEmpty()) {
                fail(one.getKey() + ", words without a test: " + left.replaceAll("\\s+", " "));
            }
        }
    }
}
