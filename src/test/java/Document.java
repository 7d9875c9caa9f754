import java.io.IOException;
import java.nio.file.Files;
import java.nio.file.Path;
import java.util.ArrayList;
import java.util.LinkedHashSet;
import java.util.List;
import java.util.Set;
import java.util.TreeMap;

/** What the document tells, as far as the tests of its edges must quote it. */
final class Document {
    static final int PROMISES = 59;

    private final String text;
    private final Set<String> sentences = new LinkedHashSet<>();
    private final TreeMap<Integer, List<String>> lines = new TreeMap<>();
    private final TreeMap<Integer, Set<String>> quotes = new TreeMap<>();

    Document(Path path) throws IOException {
        text = Files.readString(path);
        String terms = text.substring(text.indexOf("## Terms\n") + 9, text.indexOf("## Promise 1:"));
        for (String sentence : terms.replaceAll("\\s+", " ").trim().split("(?<=[.:]) (?=[A-Z])")) {
            // titles, and what a text of the interface says, have no edges
            if (sentence.split(" ").length > 4 && !sentence.startsWith("Ahead of the calls")) {
                sentences.add(sentence);
            }
        }
        int promise = 0;
        for (String line : text.split("\n")) {
            if (line.startsWith("## Promise ")) {
                promise = Integer.parseInt(line.substring(11, line.indexOf(':')));
            } else if (promise > 0 && (line.startsWith("Throws ") || line.matches("- `.*\\d.*"))) {
                lines.computeIfAbsent(promise, p -> new ArrayList<>()).add(line);
            }
        }
    }

    /** Keeps what a test quotes; returns whether the document says it. */
    boolean quote(int promise, String quoted) {
        quotes.computeIfAbsent(promise, p -> new LinkedHashSet<>()).add(quoted);
        return text.contains(quoted);
    }

    /** Each sentence of the terms, and each line of a promise that tells a range or an exception, that no test quotes. */
    List<String> unquoted() {
        List<String> missing = new ArrayList<>();
        for (String sentence : sentences) {
            if (quotes.values().stream().noneMatch(quoted -> quoted.stream().anyMatch(sentence::contains))) {
                missing.add("no test quotes: " + sentence);
            }
        }
        for (int promise : lines.keySet()) {
            for (String line : lines.get(promise)) {
                if (quotes.getOrDefault(promise, Set.of()).stream().noneMatch(line::contains)) {
                    missing.add("no test of promise " + promise + " quotes: " + line);
                }
            }
        }
        return missing;
    }
}
