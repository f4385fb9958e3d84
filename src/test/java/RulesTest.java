import java.io.IOException;
import java.nio.file.Files;
import java.nio.file.Path;

/** Signs and words that ../shared/LANGUAGE.md rules out of the program, looked for in its text. */
public final class RulesTest {
    private static final Check CHECK = new Check("RulesTest");
    private static final String[] RULED_OUT = {
        "->", "::", "import ", "package ", "Exact\\(", "\\btry\\b", "catch", "finally", "synchronized", "assert",
        "getMessage", "equals\\(", "hashCode", "toString", "NaN", "System\\.(?!arraycopy)", "Random", "Thread",
        "static \\{", "protected", "extends \\w*Exception", "\" \\+", "\\+ \"",
    };

    private RulesTest() {
    }

    public static void main(String[] args) throws IOException {
        Path root = Path.of(args.length > 0 ? args[0] : ".");
        String text = Files.readString(root.resolve("src/main/java/AssignmentHouse.java"));
        String code = text.replaceAll("(?s)/\\*.*?\\*/", "").replaceAll("//[^\n]*", "");
        for (String word : RULED_OUT) {
            CHECK.holds("the program has " + word,
                    !java.util.regex.Pattern.compile(word).matcher(code).find());
        }
        for (int i = 0; i < text.length(); i++) {
            CHECK.holds("sign " + i + " of the program is not plain", text.charAt(i) < 128 && text.charAt(i) > 0);
        }
        rowsAreReadInOnePlace(code);
        CHECK.end();
    }

    /** Only at and put may use an index, and they test it first. */
    private static void rowsAreReadInOnePlace(String code) {
        String used = code.replaceAll("\\w+\\[\\]", "").replaceAll("new int\\[\\w+( \\* \\w+)?\\]", "");
        CHECK.same("uses of an index", used.chars().filter(sign -> sign == '[').count(), 2);
    }
}
