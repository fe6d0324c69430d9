import java.io.IOException;
import java.nio.charset.StandardCharsets;
import java.nio.file.Files;
import java.nio.file.Path;
import java.util.ArrayList;
import java.util.Comparator;
import java.util.List;
import java.util.regex.Matcher;
import java.util.regex.Pattern;

/** Each sentence of the document that names a boundary, tested; and no sentence of its terms and promises left out. */
public final class BoundariesTest {
    private static final int PROMISES = 32;

    public static void main(String[] args) throws IOException {
        Sentences s = new Sentences();
        new TermsBoundaries(s).lookAtAll();
        new PlanBoundaries(s).lookAtAll();
        new CallsBoundaries(s).lookAtAll();
        new WalksBoundaries(s).lookAtAll();
        Path document = Path.of(System.getProperty("document", "../shared/DOC.md"));
        if (Files.isReadable(document)) {
            compareWith(Files.readString(document, StandardCharsets.UTF_8), s);
        } else {
            System.out.println("BoundariesTest: no document at " + document + " to compare the sentences with");
        }
        int wrong = s.countWrong();
        System.out.println(wrong == 0 ? "BoundariesTest: as due" : "BoundariesTest: " + wrong + " wrong");
        System.exit(wrong == 0 ? 0 : 1);
    }

    private static void compareWith(String document, Sentences s) {
        String all = plain(document);
        String terms = section(document, "Terms");
        for (int promise = Sentences.TERMS; promise <= PROMISES; promise++) {
            String text = promise == Sentences.TERMS ? terms : section(document, "Promise " + promise + ":[^\n]*");
            List<String> quoted = new ArrayList<>();
            for (Sentences.Quote quote : s.quotes) {
                if (quote.promise() == promise) {
                    quoted.add(quote.words());
                    if (!(promise == Sentences.TERMS ? all : text).contains(quote.words())) {
                        s.fail("the document does not say of " + promise + ": " + quote.words());
                    }
                }
            }
            String left = without(text, quoted);
            if (Pattern.compile("[A-Za-z0-9]").matcher(left).find()) {
                s.fail("no test quotes of " + promise + ": " + left);
            }
        }
    }

    /** The longest go first, so that a short one is not taken out of the middle of another. */
    private static String without(String text, List<String> quoted) {
        List<String> rest = new ArrayList<>(quoted);
        rest.sort(Comparator.comparingInt(String::length).reversed());
        String left = text;
        for (String words : rest) {
            left = left.replace(words, "|");
        }
        return left;
    }

    private static String section(String document, String title) {
        Matcher found = Pattern.compile("## " + title + "\n(.*?)(?=\n## |\\z)", Pattern.DOTALL).matcher(document);
        if (!found.find()) {
            return "";
        }
        // What stands ahead of some calls in the interface is a heading; a call's sign is the face's test.
        String text = found.group(1).replaceAll("Ahead of the calls [^\n]*", "").replaceAll("```(text)?", "");
        return plain(text.replaceAll("`[^`\n]*`:", ""));
    }

    private static String plain(String text) {
        return text.replaceAll("\\s+", " ");
    }
}
