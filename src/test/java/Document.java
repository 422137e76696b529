import java.io.IOException;
import java.io.UncheckedIOException;
import java.nio.file.Files;
import java.nio.file.Path;
import java.util.ArrayList;
import java.util.List;

/** ../shared/DOC.md, cut into the sentences of its terms and of its promises. */
final class Document {
    static final int PROMISES = 26;
    private static final String TEXT = read();

    private Document() {
    }

    private static String read() {
        try {
            return Files.readString(Path.of("../shared/DOC.md")).replace("`", "");
        } catch (IOException e) {
            throw new UncheckedIOException(e);
        }
    }

    static List<String> sentencesOfPromise(int promise) {
        return sentencesUnder("Promise " + promise + ":");
    }

    /** The terms, with the sentence that says for how many calls an object is used. */
    static List<String> sentencesOfTerms() {
        List<String> all = sentencesUnder("What it is");
        all.addAll(sentencesUnder("Terms"));
        return all;
    }

    private static List<String> sentencesUnder(String heading) {
        List<String> all = new ArrayList<>();
        for (String section : TEXT.split("\n## ")) {
            if (section.startsWith(heading)) {
                addSentences(section.substring(section.indexOf('\n')), all);
            }
        }
        return all;
    }

    private static void addSentences(String body, List<String> all) {
        for (String paragraph : body.split("\n\\s*\n|\n- ")) {
            String line = paragraph.strip().replaceAll("\\s+", " ").replaceFirst("^- ", "");
            for (String sentence : line.split("(?<=\\.) (?=[A-Z])")) {
                if (!sentence.isEmpty()) {
                    all.add(sentence);
                }
            }
        }
    }
}
