import java.io.IOException;
import java.nio.charset.StandardCharsets;
import java.nio.file.Files;
import java.nio.file.Path;
import java.util.ArrayList;
import java.util.List;

/** Each sentence of "Terms" and of the promises is quoted by a test of its own, and each quote is the document's. */
public final class SentencesTest {
    private static final Path DOCUMENT = Path.of("..", "shared", "DOC.md");
    private static final int PROMISES = 65;
    private static final int FIRST_QUESTION = 18;

    public static void main(String[] args) throws IOException {
        TermsEdgesTest.all();
        ScriptEdgesTest.all();
        UndoEdgesTest.all();
        InputEdgesTest.all();
        ChangeEdgesTest.all();
        RangeEdgesTest.all();
        SearchEdgesTest.all();
        NodeEdgesTest.all();
        ForesightEdgesTest.all();
        CounterEdgesTest.all();
        if (Files.isReadable(DOCUMENT)) {
            List<String> lines = Files.readAllLines(DOCUMENT, StandardCharsets.UTF_8);
            for (int section = Edges.TERMS; section <= PROMISES; section++) {
                compare(section, sentences(section, lines));
            }
        } else {
            System.out.println("the document is not at " + DOCUMENT + ": the quotes are not compared");
        }
        System.out.println(Edges.quotes().size() + " tests of a sentence");
        Due.close();
    }

    private static void compare(int section, List<String> sentences) {
        String all = String.join(" ", sentences);
        List<String> quotes = new ArrayList<>();
        for (String quote : Edges.quotes()) {
            if (quote.startsWith(section + " ")) {
                String words = quote.substring(quote.indexOf(' ') + 1);
                quotes.add(words);
                Due.due("section " + section + " has the words \"" + words + "\"", all.contains(words), true);
            }
        }
        for (String sentence : sentences) {
            if (isInShort(section, sentence, sentences)) {
                continue;
            }
            boolean tested = false;
            for (String words : quotes) {
                tested = tested || sentence.contains(words) || words.contains(sentence);
            }
            Due.due("section " + section + " has a test of \"" + sentence + "\"", tested, true);
        }
    }

    // A question's first sentence only says in short what "Returns" says whole.
    private static boolean isInShort(int section, String sentence, List<String> sentences) {
        return section >= FIRST_QUESTION && sentence == sentences.get(0)
                && sentences.stream().skip(1).anyMatch(other -> other.startsWith("Returns "));
    }

    /** The sentences of "What it is" and "Terms" (0), or of a promise, without the headings and the signature. */
    private static List<String> sentences(int section, List<String> lines) {
        List<String> sentences = new ArrayList<>();
        boolean inside = false;
        for (String line : lines) {
            if (line.startsWith("## ")) {
                inside = section == Edges.TERMS ? line.equals("## What it is") || line.equals("## Terms")
                        : line.startsWith("## Promise " + section + ": ");
            } else if (inside) {
                split(section, line.strip(), sentences);
            }
        }
        Due.due("section " + section + " has sentences", sentences.isEmpty(), false);
        return sentences;
    }

    private static void split(int section, String line, List<String> sentences) {
        // The interface's own headings, and what frames the grammar, promise nothing.
        if (line.isEmpty() || line.startsWith("```") || line.startsWith("Ahead of the calls")) {
            return;
        }
        String text = line.startsWith("- ") ? line.substring(2) : line;
        int signature = section == Edges.TERMS || line.startsWith("- ") ? -1 : text.indexOf("`: ");
        text = signature >= 0 ? text.substring(signature + 3) : text;
        for (String sentence : text.split("(?<=[.]) (?=[A-Z])")) {
            // The first words of a paragraph of "Terms" are its heading.
            if (!sentence.matches("(The sequence|The tree|Marks|Applying a mark to a node|Pushing down|Updates|Building|Scripts|Undo)[.]")) {
                sentences.add(sentence);
            }
        }
    }
}
