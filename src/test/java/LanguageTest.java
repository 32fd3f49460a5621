import java.io.IOException;
import java.nio.charset.StandardCharsets;
import java.nio.file.Files;
import java.nio.file.Path;
import java.util.List;
import java.util.regex.Matcher;
import java.util.regex.Pattern;

/** Rules of ../shared/LANGUAGE.md that a look at the text of the class can hold. */
public final class LanguageTest {
    private static final Path FILE = Path.of("src/main/java/FatigueMenus.java");

    private static final String[] NOT_THERE = {
        "->", "::", "\\bfinally\\b", "\\bsynchronized\\b", "\\bassert\\b", "\\bcatch\\b", "\\btry\\b", "Exact\\(",
        "\\bDouble\\b", "\\bthrow (?!new )", "\\bextends\\b", "Random", "currentTimeMillis", "nanoTime", "^package\\b",
        "\\bequals\\b", "\\bhashCode\\b", "\\btoString\\b", "System\\.(?!arraycopy\\()", "Arrays\\.(?!copyOf|fill)",
        "Math\\.(?!min\\(|max\\()", "import (?!java\\.util\\.Arrays;)",
    };

    private static void words(String text) {
        for (String word : NOT_THERE) {
            Matcher m = Pattern.compile(word, Pattern.MULTILINE).matcher(text);
            Check.tell(word, "not there", m.find() ? "there" : "not there");
        }
    }

    private static void exceptions(String text) {
        Matcher m = Pattern.compile("throw new (\\w+)\\((\"[^\"]*\")?\\);").matcher(text);
        int thrown = 0;
        while (m.find()) {
            thrown++;
            boolean known = List.of("IllegalStateException", "IllegalArgumentException", "IndexOutOfBoundsException").contains(m.group(1));
            Check.tell(m.group(), "known", known ? "known" : "not known");
        }
        Check.equal("throws of a written text", text.split("\\bthrow new\\b", -1).length - 1, thrown);
    }

    private static void lengths(List<String> lines) {
        int start = 0;
        for (int k = 0; k < lines.size(); k++) {
            String line = lines.get(k);
            if (line.matches(" {4}( {4})?\\S.*[{]") && line.contains("(")) {
                start = k;
            }
            if (line.matches(" {4}( {4})?[}]")) {
                Check.equal("line " + k + " ends a method of over 60 lines", 0, k - start > 60 && lines.get(start).contains(")") && !lines.get(start).contains("class") ? 1 : 0);
                start = k;
            }
        }
    }

    public static void main(String[] args) throws IOException {
        String text = Files.readString(FILE, StandardCharsets.US_ASCII);
        words(text);
        exceptions(text);
        lengths(Files.readAllLines(FILE, StandardCharsets.US_ASCII));
        Check.finish("LanguageTest");
    }
}
