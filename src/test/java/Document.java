import java.io.IOException;
import java.nio.file.Files;
import java.nio.file.Path;
import java.util.ArrayList;
import java.util.HashSet;
import java.util.LinkedHashMap;
import java.util.List;
import java.util.Map;
import java.util.Set;

/**
 * The sentences of ../shared/DOC.md. A test says first which sentence it is for, by words that
 * stand in this one alone of its section; in the end each sentence must have been said.
 */
final class Document {
    private static final Path FILE = Path.of("../shared/DOC.md");
    private static final Map<String, List<String>> SECTIONS = read();
    private static final Set<String> SAID = new HashSet<>();
    private static String section = "";

    private Document() {
    }

    /** By the first words of its heading: "Terms", "Promise 7". */
    static void section(String heading) {
        section = "";
        for (String title : SECTIONS.keySet()) {
            if (title.equals(heading) || title.startsWith(heading + ":")) {
                section = title;
            }
        }
        Expect.due("the document has the section " + heading, section.isEmpty(), false);
    }

    static String says(String words) {
        String found = "";
        int count = 0;
        for (String sentence : sentences()) {
            if (sentence.contains(words)) {
                found = sentence;
                count++;
            }
        }
        Expect.under(section + ", \"" + words + "\"");
        Expect.due("the sentences with these words", count, 1);
        SAID.add(section + "/" + found);
        return found;
    }

    static List<String> sentences() {
        return SECTIONS.getOrDefault(section, List.of());
    }

    static List<String> refusals() {
        List<String> rows = new ArrayList<>(sentences());
        rows.removeIf(sentence -> !sentence.startsWith("Throws "));
        return rows;
    }

    static void everySentenceWasSaid() {
        Expect.under("the document");
        Expect.due("the promises", SECTIONS.keySet().stream()
                .filter(title -> title.startsWith("Promise ")).count(), 41L);
        for (Map.Entry<String, List<String>> entry : SECTIONS.entrySet()) {
            for (String sentence : entry.getValue()) {
                String key = entry.getKey() + "/" + sentence;
                Expect.due("tested: " + key, SAID.contains(key), true);
            }
        }
    }

    private static Map<String, List<String>> read() {
        Map<String, List<String>> sections = new LinkedHashMap<>();
        String title = "";
        try {
            for (String line : Files.readAllLines(FILE)) {
                if (line.startsWith("## ")) {
                    title = line.substring(3);
                } else if (isProse(line) && promisesSomething(title)) {
                    sections.computeIfAbsent(title, t -> new ArrayList<>()).addAll(split(line));
                }
            }
        } catch (IOException e) {
            throw new IllegalStateException("no document at " + FILE.toAbsolutePath(), e);
        }
        return sections;
    }

    private static boolean promisesSomething(String title) {
        return title.equals("What it is") || title.equals("Terms") || title.startsWith("Promise ");
    }

    /** No empty line, and no heading, also of the form "1. Books". */
    private static boolean isProse(String line) {
        return !line.isEmpty() && !line.startsWith("#") && !line.matches("\\d+[.] \\w+");
    }

    /** A signature ahead of a promise is no sentence. */
    private static List<String> split(String line) {
        String text = line.replaceFirst("^- ", "").replaceFirst("^`[^`]*[)][^`]*`: ", "");
        return List.of(text.split("(?<=[.]) (?=[A-Za-z])"));
    }
}
