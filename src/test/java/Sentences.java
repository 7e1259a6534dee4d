import java.io.IOException;
import java.nio.file.Files;
import java.nio.file.Path;
import java.util.ArrayList;
import java.util.LinkedHashMap;
import java.util.List;
import java.util.Map;

/**
 * The sentences of the document, by their section. It knows which of them a test was named after,
 * so that a sentence without a test, and a name that the document does not say, are found.
 */
final class Sentences {
    private static final Path DOCUMENT = Path.of("../shared/DOC.md");
    private static final List<String> TERMS = List.of("Towns and bells", "Settings", "A turn",
        "Text", "Actions and history", "Errors");
    private static final String FIRST_LETTERS = "(?s).*[A-Za-z]{2}.*";

    private final Map<String, String> sections = new LinkedHashMap<>();
    private final Map<String, List<String>> quotes = new LinkedHashMap<>();

    /** Without the document (which is no part of the project) the names are not looked up. */
    static Sentences read() throws IOException {
        Sentences sentences = new Sentences();
        if (Files.isReadable(DOCUMENT)) {
            sentences.split(Files.readString(DOCUMENT));
        } else {
            System.out.println(DOCUMENT + " is not there: its sentences are not looked up");
        }
        return sentences;
    }

    private void split(String text) {
        for (String section : text.split("(?m)^##+ ")) {
            int end = section.indexOf('\n');
            if (end > 0) {
                String title = section.substring(0, end);
                sections.put(title.replaceAll(":.*", "").trim(), plain(section.substring(end)));
            }
        }
    }

    /** One line for each paragraph or item, without its marks. */
    private static String plain(String text) {
        return text.replaceAll("```(text)?", "").replace("`", "").replaceAll("(?m)^- ", "")
            .replaceAll("(?m)^\\d\\. ", "").replaceAll("[ \t]+", " ").replaceAll("\n ?", "\n");
    }

    void quote(String section, String words) {
        quotes.computeIfAbsent(section, key -> new ArrayList<>()).add(words);
    }

    /** The names of tests that the document does not say. */
    List<String> strangers() {
        List<String> strangers = new ArrayList<>();
        if (sections.isEmpty()) {
            return strangers;
        }
        quotes.forEach((section, all) -> {
            String said = sections.getOrDefault(section, "");
            for (String words : all) {
                if (!said.contains(words)) {
                    strangers.add(section + ": " + words);
                }
            }
        });
        return strangers;
    }

    /** The sentences of the terms and of the promises that no test is named after. */
    List<String> untested() {
        List<String> untested = new ArrayList<>();
        sections.forEach((section, said) -> {
            if (TERMS.contains(section) || section.startsWith("Promise ")) {
                for (String piece : said.split("\n|(?<=[.;:]) ")) {
                    if (isSentence(piece) && !isQuoted(section, piece)) {
                        untested.add(section + ": " + piece);
                    }
                }
            }
        });
        return untested;
    }

    /** What stands ahead of a call in the interface is a comment there, and no sentence. */
    private static boolean isSentence(String piece) {
        boolean isComment = piece.startsWith("Ahead of the calls") || piece.startsWith("----");
        boolean isCall = piece.matches("[\\w ]+\\([\\w, ]*\\):");
        boolean isName = piece.matches("\\w+:|[A-Z_]+ = -?\\d:|In a turn:");
        return piece.matches(FIRST_LETTERS) && !isComment && !isCall && !isName;
    }

    private boolean isQuoted(String section, String piece) {
        for (String words : quotes.getOrDefault(section, List.of())) {
            if (words.contains(piece) || piece.contains(words)) {
                return true;
            }
        }
        return false;
    }
}
