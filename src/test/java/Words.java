import java.io.IOException;
import java.nio.file.Files;
import java.nio.file.Path;
import java.util.BitSet;
import java.util.LinkedHashMap;
import java.util.Map;

/**
 * The document's own words, each sentence with checks of its own. Told as wrong: a quote that doesn't stand in its
 * section, a quote without a check behind it, and at the end all words of the Terms and promises that nobody quoted.
 */
final class Words {
    private static final Path DOCUMENT = Path.of("../shared/DOC.md");

    private final Due due;
    private final Map<String, String> texts = new LinkedHashMap<>();
    private final Map<String, BitSet> quoted = new LinkedHashMap<>();
    private String section = "";
    private String sentence = "";
    private int checks = 1;
    private int sentences;

    Words(Due due) throws IOException {
        this.due = due;
        if (!Files.exists(DOCUMENT)) {
            System.out.println(DOCUMENT + " isn't here: quotes aren't held against it");
            return;
        }
        for (String part : Files.readString(DOCUMENT).split("\n## ")) {
            int end = part.indexOf('\n');
            String heading = end < 0 ? part : part.substring(0, end);
            if (heading.equals("Terms") || heading.startsWith("Promise ")) {
                String text = part.substring(end).replace("```text", "").replace("```", "").replaceAll("\\s+", " ");
                texts.put(heading, text);
                quoted.put(heading, new BitSet());
            }
        }
        due.is("sections of the document: Terms and promises", texts.size(), 40);
    }

    /** From here on quotes are of this section ("Terms", or the promise of a number). */
    void section(String name) {
        section = name;
        for (String heading : texts.keySet()) {
            if (heading.startsWith(name + ":")) {
                section = heading;
            }
        }
        due.is("a section " + name, texts.isEmpty() || texts.containsKey(section), true);
    }

    void promise(int number) {
        section("Promise " + number);
    }

    /** The checks behind this, up to the next quote, are the test of these words. */
    void says(String words) {
        due.is("a check for: " + sentence, checks > 0, true);
        sentence = words;
        checks = 0;
        sentences++;
        if (texts.isEmpty()) {
            return;
        }
        String text = texts.get(section);
        int at = text.indexOf(words);
        while (at >= 0 && quoted.get(section).get(at)) {
            at = text.indexOf(words, at + 1);
        }
        due.is(section + " says: " + words, at >= 0, true);
        if (at >= 0) {
            quoted.get(section).set(at, at + words.length());
        }
    }

    void is(String call, long got, long want) {
        checks++;
        due.is(called(call), got, want);
    }

    void is(String call, boolean got, boolean want) {
        checks++;
        due.is(called(call), got, want);
    }

    void is(String call, String got, String want) {
        checks++;
        due.is(called(call), got, want);
    }

    private String called(String call) {
        return section + ", '" + sentence + "': " + call;
    }

    /** Tells all words that nobody quoted. */
    void end() {
        due.is("a check for: " + sentence, checks > 0, true);
        for (Map.Entry<String, String> entry : texts.entrySet()) {
            StringBuilder rest = new StringBuilder();
            for (int i = 0; i < entry.getValue().length(); i++) {
                rest.append(quoted.get(entry.getKey()).get(i) ? '|' : entry.getValue().charAt(i));
            }
            String left = rest.toString().replaceAll("`[^`]*`", "").replaceAll("==== \\d\\.", "").replaceAll("\\|+", "|");
            boolean all = left.replaceAll("[^A-Za-z0-9]", "").isEmpty();
            if (!all) {
                due.is(entry.getKey() + ": all words are quoted", left, "");
            }
        }
        System.out.println(sentences + " sentences have tests of their own");
    }
}
