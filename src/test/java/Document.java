import java.io.IOException;
import java.io.UncheckedIOException;
import java.nio.file.Files;
import java.nio.file.Path;
import java.util.ArrayList;
import java.util.LinkedHashMap;
import java.util.List;
import java.util.Map;

/** The document: a test says which of its words it is about, and what no test has said can be listed. */
final class Document {
    private static final Map<String, List<String>> SENTENCES = read(Path.of("../shared/DOC.md"));
    private static final Map<String, List<String>> SAID = new LinkedHashMap<>();

    private Document() {
    }

    /** Words of the section "Terms". */
    static void terms(String... words) {
        says("Terms", words);
    }

    /** Words of the section of a promise; all of the calls behind this line are about them. */
    static void promise(int number, String... words) {
        says("Promise " + number, words);
    }

    private static void says(String section, String[] words) {
        String text = String.join(" ", SENTENCES.getOrDefault(section, List.of()));
        for (String some : words) {
            Checks.note(SENTENCES.isEmpty() || text.contains(some), section + " does not say: " + some);
            SAID.computeIfAbsent(section, s -> new ArrayList<>()).add(some);
        }
    }

    /** The sentences of which no test has said a word, each behind the name of its section. */
    static List<String> unsaid() {
        List<String> unsaid = new ArrayList<>();
        SENTENCES.forEach((section, sentences) -> {
            List<String> said = SAID.getOrDefault(section, List.of());
            for (String sentence : sentences) {
                if (said.stream().noneMatch(words -> words.contains(sentence) || sentence.contains(words))) {
                    unsaid.add(section + ": " + sentence);
                }
            }
        });
        return unsaid;
    }

    /** The sections "Terms" and "Promise n", without the signs that only lay them out; none if there is no document. */
    private static Map<String, List<String>> read(Path path) {
        Map<String, List<String>> sections = new LinkedHashMap<>();
        if (!Files.exists(path)) {
            System.out.println(path + " is not here: the calls are tested, and not what the tests quote");
            return sections;
        }
        String text;
        try {
            text = Files.readString(path);
        } catch (IOException e) {
            throw new UncheckedIOException(e);
        }
        for (String section : text.split("(?m)^## ")) {
            String title = section.substring(0, section.indexOf('\n')).replaceAll(":.*", "");
            if (title.equals("Terms") || title.startsWith("Promise ")) {
                sections.put(title, sentences(section.substring(section.indexOf('\n'))));
            }
        }
        return sections;
    }

    private static List<String> sentences(String section) {
        List<String> sentences = new ArrayList<>();
        String plain = section.replace("`", "").replaceAll("(?m)^- ", "\n").replaceAll("(?m)^([A-Z, ]+)$", "$1\n");
        for (String paragraph : plain.split("\n\\s*\n")) {
            String line = paragraph.replaceAll("\\s+", " ").trim();
            for (String sentence : line.split("(?<=[.;]\\)?) ")) {
                if (!sentence.isEmpty()) {
                    sentences.add(sentence);
                }
            }
        }
        return sentences;
    }
}
