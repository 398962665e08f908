import java.io.IOException;
import java.nio.file.Files;
import java.nio.file.Path;
import java.util.Arrays;
import java.util.function.IntToLongFunction;

/**
 * The sentences of the document that tests name, and what was not as they say. A test says its sentence word for
 * word; one that the document doesn't have, one without any call, and words of the document that no test names,
 * are wrong.
 */
final class Sentences {
    private static final Path DOC = Path.of("../shared/DOC.md");
    private static final int MIN = Integer.MIN_VALUE, MAX = Integer.MAX_VALUE;

    private static final String[] WORDS = wordsOfDocument();
    private static String heading = "", section = "", sentence = "";
    private static boolean[] named = {};
    private static int wrong = 0, asked = 0, sentences = 0;

    private Sentences() {
    }

    private static String[] wordsOfDocument() {
        try {
            String doc = Files.readString(DOC).replaceAll("(?m)^(```.*|Ahead of the calls .*|====.[0-9])", " ");
            return doc.split("(?m)^## ");
        } catch (IOException e) {
            System.out.println("no document at " + DOC + ": what tests say is not looked up");
            return new String[0];
        }
    }

    private static String plain(String words) {
        return words.replaceAll("====.[0-9]|\\s+", " ").trim();
    }

    /** The tests that come are about what stands under this heading of the document. */
    static void under(String begins) {
        endOfSection();
        heading = begins;
        section = "";
        for (String part : WORDS) {
            if (part.startsWith(begins + ":") || part.startsWith(begins + "\n")) {
                section = plain(part.substring(part.indexOf('\n')).replaceAll("(?s)^\\s*`[^`]*`:", ""));
            }
        }
        named = new boolean[section.length()];
        if (WORDS.length > 0 && section.isEmpty()) {
            fail("the document has no such heading");
        }
    }

    /** The calls that come are about this sentence. */
    static void says(String words) {
        endOfSentence();
        sentence = words;
        asked = 0;
        sentences++;
        if (WORDS.length == 0) {
            return;
        }
        int at = section.indexOf(words);
        if (at < 0) {
            fail("the document doesn't say so");
            return;
        }
        while (named[at] && section.indexOf(words, at + 1) >= 0) {
            at = section.indexOf(words, at + 1);
        }
        Arrays.fill(named, at, at + words.length(), true);
    }

    static void due(String call, long got, long want) {
        asked++;
        if (got != want) {
            fail(call + " answered " + got + ", due is " + want);
        }
    }

    /** A number from least to most: the bounds are taken, one step beyond each, and far beyond, is refused. */
    static void range(String number, int least, int most, long refusal, IntToLongFunction call) {
        for (int v : new int[] {least, most}) {
            asked++;
            if (call.applyAsLong(v) == refusal) {
                fail(number + " " + v + " is refused");
            }
        }
        for (int v : new int[] {least - 1, MIN, most + 1, MAX}) {
            due(number + " " + v, call.applyAsLong(v), refusal);
        }
    }

    private static void fail(String what) {
        wrong++;
        System.out.println(heading + ", \"" + sentence + "\": " + what);
    }

    private static void endOfSentence() {
        if (!sentence.isEmpty() && asked == 0) {
            fail("no call asks for it");
        }
        sentence = "";
    }

    /** What of the section no test has named, but for signs alone. */
    private static void endOfSection() {
        endOfSentence();
        StringBuilder left = new StringBuilder();
        for (int i = 0; i < named.length; i++) {
            left.append(named[i] ? '\n' : section.charAt(i));
        }
        boolean isWhole = heading.startsWith("Terms") || heading.startsWith("Promise");
        for (String words : left.toString().split("\n+")) {
            if (isWhole && words.matches(".*[A-Za-z0-9].*")) {
                fail("no test names: " + words.trim());
            }
        }
    }

    static void end() {
        endOfSection();
        System.out.println(wrong == 0 ? sentences + " sentences hold at their bounds" : wrong + " things are not as told");
        if (wrong != 0) {
            System.exit(1);
        }
    }
}
