import java.io.IOException;
import java.io.UncheckedIOException;
import java.nio.file.Files;
import java.nio.file.Path;
import java.util.ArrayList;
import java.util.LinkedHashMap;
import java.util.List;
import java.util.Map;
import java.util.regex.Matcher;
import java.util.regex.Pattern;

/**
 * The sentences of ../shared/DOC.md by section. A promise is a section ("Promise 7"), a paragraph of the terms is one too
 * ("Terms: Players"). Lines are joined, and the points at the ends left out.
 */
final class Document {
    private static final Path FILE = Path.of("../shared/DOC.md");
    private static final Pattern TERM = Pattern.compile("(\\w+)\\. (.*)");
    private final Map<String, List<String>> sections = new LinkedHashMap<>();

    Document() {
        for (String part : text().split("(?m)^## ")) {
            int end = part.indexOf('\n');
            String title = part.substring(0, Math.max(end, 0)).strip();
            if (!title.equals("The public face") && !title.startsWith("#")) {
                addSection(title.replaceAll("^(Promise \\d+):.*", "$1"), part.substring(end).strip());
            }
        }
    }

    private static String text() {
        try {
            return Files.readString(FILE);
        } catch (IOException e) {
            throw new UncheckedIOException(e);
        }
    }

    private void addSection(String title, String text) {
        for (String paragraph : text.split("\n\\s*\n|\n(?=- )")) {
            String words = paragraph.replaceAll("\\s+", " ");
            Matcher term = TERM.matcher(words);
            if (title.equals("Terms") && term.matches()) {
                addSentences("Terms: " + term.group(1), term.group(2));
            } else {
                addSentences(title, words.replaceAll("^- |^`[^`]*\\)[^`]*`: ", ""));
            }
        }
    }

    private void addSentences(String section, String words) {
        List<String> sentences = sections.computeIfAbsent(section, name -> new ArrayList<>());
        for (String sentence : words.split("(?<=\\.) ")) {
            sentences.add(sentence.replaceAll("\\.$", ""));
        }
    }

    boolean holds(String section, String sentence) {
        return sections.getOrDefault(section, List.of()).contains(sentence);
    }

    Map<String, List<String>> sections() {
        return sections;
    }
}
