import java.io.IOException;
import java.io.UncheckedIOException;
import java.nio.file.Files;
import java.nio.file.Path;
import java.util.ArrayList;
import java.util.LinkedHashMap;
import java.util.List;
import java.util.Map;

/** The document, cut into sentences: no test can quote what it does not say, and no sentence stays without a test. */
final class Document {
    /** These name no case that a call could show. */
    private static final List<String> INTRODUCTIONS = List.of(
            "A simulator for a cooperative of street lamps.",
            "The lamps own shares.",
            "Deliveries of oil and dividends are apportioned by shares",
            "The class predicts nights, apportionments and votes",
            "Ahead of the calls ");

    /** The sentences of each section, by its title: "Terms", "Promise 7". */
    private final Map<String, List<String>> sections = new LinkedHashMap<>();
    private final List<String> quoted = new ArrayList<>();

    Document(Path path) {
        String text;
        try {
            text = Files.readString(path);
        } catch (IOException e) {
            throw new UncheckedIOException(e);
        }
        for (String section : text.split("(?m)^## ")) {
            String title = section.substring(0, section.indexOf('\n'));
            boolean kept = title.equals("What it is") || title.equals("Terms") || title.startsWith("Promise ");
            if (kept) {
                sections.put(title.replaceAll(":.*", ""), sentences(section.substring(title.length())));
            }
        }
    }

    /** A line of a list is a sentence too; the signature before the first sentence is none. */
    private static List<String> sentences(String body) {
        List<String> sentences = new ArrayList<>();
        for (String paragraph : body.trim().replaceFirst("^`[^`]*`: ", "").split("\n\n|\n(?=- )")) {
            String flat = paragraph.replaceAll("\\s+", " ").replaceFirst("^- ", "").trim();
            for (String sentence : flat.split("(?<=[.]) (?=[A-Z])")) {
                // One word alone is the heading of a paragraph.
                if (sentence.contains(" ") && INTRODUCTIONS.stream().noneMatch(sentence::startsWith)) {
                    sentences.add(sentence);
                }
            }
        }
        return sentences;
    }

    /** Notes the quote, and answers whether the promise says it, itself or by the terms. */
    boolean says(int promise, String quote) {
        boolean said = false;
        for (String title : List.of("Promise " + promise, "Terms", "What it is")) {
            for (String sentence : sections.getOrDefault(title, List.of())) {
                if (sentence.contains(quote)) {
                    quoted.add(title + ": " + sentence);
                    said = true;
                }
            }
        }
        return said;
    }

    List<String> unquoted() {
        List<String> unquoted = new ArrayList<>();
        sections.forEach((title, sentences) -> {
            for (String sentence : sentences) {
                if (!quoted.contains(title + ": " + sentence)) {
                    unquoted.add(title + ": " + sentence);
                }
            }
        });
        return unquoted;
    }
}
