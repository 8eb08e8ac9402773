import java.io.IOException;
import java.nio.charset.StandardCharsets;
import java.nio.file.Files;
import java.nio.file.Path;
import java.util.ArrayList;
import java.util.List;

/** The document, quoted word for word; a sentence that is left out, or that nothing is asked about, is told. */
final class Document {
    private static final Path PLACE = Path.of("..", "shared", "DOC.md");
    private static final List<String> QUOTES = new ArrayList<>();
    private static int askedBefore = 0;

    private Document() {
    }

    /** The next words of the document; the answers from here on are about them. */
    static void says(String words) {
        closeLast();
        QUOTES.add(words);
        Gate.sentence(words);
    }

    private static void closeLast() {
        if (!QUOTES.isEmpty()) {
            Gate.due("answers that were asked for", Gate.asked() > askedBefore ? 1 : 0, 1);
        }
        askedBefore = Gate.asked();
    }

    /** All quotes together must be the document, up to what is not promised. */
    static void finish() throws IOException {
        closeLast();
        Gate.sentence("the document's own words");
        if (!Files.exists(PLACE)) {
            System.out.println("no " + PLACE + ": the quotes are not compared with it");
            return;
        }
        String[] due = words(Files.readString(PLACE, StandardCharsets.UTF_8)).split(" ");
        String[] got = String.join(" ", QUOTES).split("\\s+");
        for (int i = 0; i < Math.max(due.length, got.length); i++) {
            String quoted = i < got.length ? got[i] : "nothing";
            String said = i < due.length ? due[i] : "nothing";
            Gate.due("word " + i, quoted, said);
            if (!quoted.equals(said)) {
                return;
            }
        }
    }

    private static String words(String text) {
        StringBuilder words = new StringBuilder();
        for (String line : text.split("\n")) {
            if (line.startsWith("## Not promised")) {
                break;
            }
            if (!line.startsWith("#") && !line.startsWith("```")) {
                words.append(line).append(' ');
            }
        }
        return words.toString().trim().replaceAll("\\s+", " ");
    }
}
