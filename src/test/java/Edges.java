import java.io.IOException;
import java.nio.file.Files;
import java.nio.file.Path;
import java.util.BitSet;
import java.util.Map;
import java.util.TreeMap;

/**
 * Checks of edges, each under the sentence of the document that it holds the class to. A sentence that the document
 * doesn't say, a sentence without a check behind it, and words of promises, terms and "What it is" under no check are
 * wrong, too.
 */
final class Edges {
    /** From the checkout, where .ci/run goes ahead of all else. */
    private static final Path DOCUMENT = Path.of("..", "shared", "DOC.md");
    private static final int LAST_PROMISE = 38;

    private final Checks checks = new Checks();
    private final Map<String, String> sections = new TreeMap<>();
    private final Map<String, BitSet> named = new TreeMap<>();
    private final boolean isRead;
    private String sentence = "";
    private int asked = 1;

    Edges() {
        isRead = Files.isReadable(DOCUMENT);
        if (isRead) {
            readDocument();
        } else {
            System.out.println("no " + DOCUMENT + ": what the checks quote isn't held against it");
        }
    }

    // ---- the document

    private void readDocument() {
        String text;
        try {
            text = Files.readString(DOCUMENT);
        } catch (IOException e) {
            throw new IllegalStateException(e);
        }
        String heading = "";
        StringBuilder body = new StringBuilder();
        for (String line : text.split("\n")) {
            if (line.startsWith("## ") || line.startsWith("==== ")) {
                sections.put(heading, oneLine(body.toString()));
                body.setLength(0);
                boolean part = line.startsWith("==== ");
                heading = part ? "Terms " + line.charAt(5) : line.substring(3).replaceFirst(":.*", "");
                body.append(part ? line.substring(7) : "").append(' ');
            } else if (!line.startsWith("```")) {
                body.append(line).append(' ');
            }
        }
        sections.put(heading, oneLine(body.toString()));
        for (Map.Entry<String, String> section : sections.entrySet()) {
            named.put(section.getKey(), new BitSet(section.getValue().length()));
        }
    }

    private static String oneLine(String text) {
        return text.replaceAll("\\s+", " ").strip();
    }

    private void closeSentence() {
        checks.due(sentence + ": a check behind it", 1, asked > 0 ? 1 : 0);
    }

    private void name(String heading, String words) {
        closeSentence();
        sentence = heading + ", \"" + words + "\"";
        asked = 0;
        if (isRead) {
            String section = sections.getOrDefault(heading, "");
            int at = section.indexOf(words);
            checks.due(sentence + ": the document says so", 1, at >= 0 ? 1 : 0);
            if (at >= 0) {
                named.get(heading).set(at, at + words.length());
            }
        }
    }

    void promise(int n, String words) {
        name("Promise " + n, words);
    }

    void terms(int part, String words) {
        name("Terms " + part, words);
    }

    void whatItIs(String words) {
        name("What it is", words);
    }

    /** No word of the promises (behind the names of the calls), the terms and "What it is" may be under no check. */
    private void everyWordIsNamed() {
        wordsAreNamed("What it is", 0);
        for (int n = 1; n <= LAST_PROMISE; n++) {
            String section = sections.getOrDefault("Promise " + n, "");
            wordsAreNamed("Promise " + n, section.indexOf("`:") + 2);
        }
        for (int part = 1; part <= 3; part++) {
            wordsAreNamed("Terms " + part, 0);
        }
    }

    private void wordsAreNamed(String heading, int from) {
        String section = sections.getOrDefault(heading, "");
        checks.due(heading + " is in the document", 1, section.isEmpty() ? 0 : 1);
        StringBuilder left = new StringBuilder();
        for (int i = from; i < section.length(); i++) {
            left.append(named.get(heading).get(i) ? '|' : section.charAt(i));
        }
        String words = left.toString().replaceAll("\\|+", " | ").strip();
        checks.due(heading + ", under no check: " + words, 0, words.matches(".*[A-Za-z0-9].*") ? 1 : 0);
    }

    void end() {
        closeSentence();
        if (isRead) {
            everyWordIsNamed();
        }
        checks.end();
    }

    // ---- checks

    void due(String call, long want, long got) {
        asked++;
        checks.due(sentence + ": " + call, want, got);
    }

    void dueAll(String call, int[] got, int... want) {
        asked++;
        checks.dueAll(sentence + ": " + call, got, want);
    }

    void noIndex(String call, Checks.Asked asks) {
        asked++;
        checks.noIndex(sentence + ": " + call, asks);
    }

    void noElement(String call, Checks.Asked asks) {
        asked++;
        checks.noElement(sentence + ": " + call, asks);
    }

    /** A TEXT with a FAULT, on a new object. */
    void fault(int number, int place, String text) {
        BeamSetter x = new BeamSetter();
        String shown = text.replace("\n", "\\n");
        due("text of " + shown, BeamSetter.NONE, Checks.say(x, text));
        due("fault(0) of " + shown, number, x.fault(0));
        due("fault(1) of " + shown, place, x.fault(1));
    }

    /** A TEXT without one: the object. */
    BeamSetter right(int lines, String text) {
        BeamSetter x = new BeamSetter();
        String shown = text.replace("\n", "\\n");
        due("text of " + shown, lines, Checks.say(x, text));
        due("fault(0) of " + shown, 0, x.fault(0));
        due("fault(1) of " + shown, BeamSetter.NONE, x.fault(1));
        return x;
    }
}
