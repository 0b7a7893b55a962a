import java.io.IOException;
import java.nio.file.Files;
import java.nio.file.Path;
import java.util.BitSet;
import java.util.LinkedHashMap;
import java.util.Map;

/**
 * The document's sentences, each held by a run of its own. A test names where a sentence stands and the sentence, in
 * the document's own words; in the end each word of the document's terms and promises must have been named.
 */
final class Sentences {
    private static final Path DOCUMENT = Path.of("../shared/DOC.md");

    private final Map<String, String> texts = new LinkedHashMap<>();
    private final Map<String, BitSet> named = new LinkedHashMap<>();
    private final Player green = new Player(MaypoleGreen.class, "");
    /** What a run says is due must be what the plain reading answers, too. */
    private final Player plain = new Player(PlainGreen.class, "(the plain reading) ");
    private int count = 0;

    Sentences() throws IOException {
        String document = Files.readString(DOCUMENT).replaceAll("(?m)^```.*$", "");
        String ring = document.replaceFirst("(?s).*?==== 1 ", "").replaceFirst("(?s)\n.*", "");
        String terms = document.replaceFirst("(?s).*?\n## Terms\n", "").replaceFirst("(?s)\nAhead of the calls .*", "");
        String[] answers = (ring + " " + terms).split("\nAnswers: ");
        String[] parts = answers[0].split("==== \\d ");
        for (int i = 0; i < parts.length; i++) {
            put("Terms " + (i + 1), parts[i]);
        }
        put("Terms, Answers", answers[1]);
        String[] promises = document.split("\n## ");
        for (String promise : promises) {
            if (promise.startsWith("Promise ")) {
                put(promise.replaceFirst("(?s)\n.*", ""), promise.replaceFirst("(?s).*?\n+`[^`]*`: ", ""));
            }
        }
        put("What it is", document.replaceFirst("(?s).*\nAn object is used", "An object is used")
            .replaceFirst("(?s)\n.*", ""));
    }

    private void put(String where, String text) {
        texts.put(where, text.replaceAll("\\s+", " ").strip());
        named.put(where, new BitSet());
    }

    /** A sentence (or the part of one that names a case of its own) and the run that holds it. */
    void holds(String where, String sentence, String run) {
        name(where, sentence);
        Run calls = new Run(run);
        String title = where + " | " + sentence;
        play(green, title, calls);
        play(plain, title, calls);
    }

    /** A call that throws breaks its own sentence, and the others are held all the same. */
    private static void play(Player player, String title, Run calls) {
        try {
            player.play(title, calls);
        } catch (IllegalStateException e) {
            Check.due(title + ": " + e.getMessage() + ", " + e.getCause(), false);
        }
    }

    private void name(String where, String sentence) {
        count++;
        String text = texts.get(where);
        int from = text == null ? -1 : text.indexOf(sentence);
        Check.due("the document has no such sentence: " + where + " | " + sentence, from >= 0);
        if (from >= 0) {
            named.get(where).set(from, from + sentence.length());
        }
    }

    int count() {
        return count;
    }

    void allAreNamed() {
        Check.due("parts of the document: " + texts.keySet(), texts.size(), 8 + 1 + 38 + 1);
        for (Map.Entry<String, String> entry : texts.entrySet()) {
            StringBuilder rest = new StringBuilder();
            for (int i = 0; i < entry.getValue().length(); i++) {
                rest.append(named.get(entry.getKey()).get(i) ? '_' : entry.getValue().charAt(i));
            }
            String left = rest.toString().replaceAll("_+", "_").strip();
            Check.due(entry.getKey() + " has words that no test names: " + left, left.matches("[_ .;,:()]*"));
        }
    }
}
