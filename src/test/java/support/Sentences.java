import java.io.IOException;
import java.nio.file.Files;
import java.nio.file.Path;
import java.util.ArrayList;
import java.util.HashMap;
import java.util.List;
import java.util.Map;

/**
 * Tests that stand beside a sentence of the document: each quotes its promise's number and the sentence, word by word.
 * At the end each promise that was given must be quoted whole, and each quote must have been asked about.
 */
final class Sentences {
    private static final Path DOCUMENT = Path.of("../shared/DOC.md");
    private static final String HEAD = "## Promise ";

    private final Tester tester = new Tester();
    private final int[] promises;
    private final String terms;
    private final Map<Integer, String> said = new HashMap<>();
    private final Map<Integer, List<String>> quoted = new HashMap<>();
    private final boolean readable = Files.exists(DOCUMENT);
    private String current = "";
    private int asked = 1;

    Sentences(int... promises) throws IOException {
        this.promises = promises;
        String whole = readable ? Files.readString(DOCUMENT) : "";
        String[] parts = whole.split("\n(?=## )");
        String found = "";
        for (String part : parts) {
            if (part.startsWith("## Terms")) {
                found = plain(part);
            } else if (part.startsWith(HEAD)) {
                int number = Integer.parseInt(part.substring(HEAD.length(), part.indexOf(':')));
                said.put(number, plain(part.substring(part.indexOf("`: ") + 3)));
            }
        }
        terms = found;
        if (!readable) {
            System.out.println(DOCUMENT + " is not there: what is quoted isn't looked up");
        }
    }

    private static String plain(String text) {
        return text.replace("```text", " ").replace("```", " ").replaceAll("\\s+", " ").trim();
    }

    /** What is asked from now on is due by this sentence of the promise, or of the terms that it is told by. */
    void says(int promise, String sentence) {
        endSentence();
        current = "promise " + promise + " \"" + sentence + "\"";
        asked = 0;
        tester.about(current);
        quoted.computeIfAbsent(promise, k -> new ArrayList<>()).add(sentence);
        if (readable) {
            boolean stands = said.getOrDefault(promise, "").contains(sentence) || terms.contains(sentence);
            tester.due("the sentence stands in the document", stands, true);
        }
    }

    private void endSentence() {
        tester.due("something was asked about " + current, asked > 0, true);
    }

    void due(String call, long got, long want) {
        asked++;
        tester.due(call, got, want);
    }

    void due(String call, boolean got, boolean want) {
        asked++;
        tester.due(call, got, want);
    }

    void dueRow(String call, String got, String want) {
        asked++;
        tester.dueRow(call, got, want);
    }

    /** A text that has this fault at this place. */
    void faulty(String text, int kind, int place) {
        LastHouse x = new LastHouse();
        due("text of " + text, Tester.tell(x, text), LastHouse.NONE);
        due("the fault of " + text, x.fault(0), kind);
        due("its place in " + text, x.fault(1), place);
    }

    /** A text of so many lines, without a fault. */
    void good(String text, int lines) {
        LastHouse x = new LastHouse();
        due("text of " + text, Tester.tell(x, text), lines);
        due("the fault of " + text, x.fault(0), 0);
        due("its place in " + text, x.fault(1), LastHouse.NONE);
    }

    void end() {
        endSentence();
        for (int promise : promises) {
            tester.about("promise " + promise);
            tester.due("a sentence is quoted", quoted.containsKey(promise), true);
            if (readable) {
                tester.dueRow("what no test quotes", left(promise), "");
            }
        }
        tester.end();
    }

    /** The words of a promise that stand in no quote. */
    private String left(int promise) {
        String text = said.getOrDefault(promise, "(no such promise)");
        StringBuilder rest = new StringBuilder(text);
        for (String quote : quoted.getOrDefault(promise, List.of())) {
            for (int at = text.indexOf(quote); at >= 0; at = text.indexOf(quote, at + 1)) {
                for (int k = at; k < at + quote.length(); k++) {
                    rest.setCharAt(k, ' ');
                }
            }
        }
        return rest.toString().replaceAll("[ .,:;]+", " ").trim();
    }
}
