import java.io.IOException;
import java.nio.file.Files;
import java.nio.file.Path;
import java.util.HashMap;
import java.util.HashSet;
import java.util.Map;
import java.util.Set;
import java.util.function.IntConsumer;

/** Sentences of the document, each with a test of its own, held against the document's own words. */
final class Sentences {
    private final Check check;
    private final Map<String, String> sections = new HashMap<>();
    private final Set<String> tested = new HashSet<>();

    Sentences(Check check, String[] args) throws IOException {
        this.check = check;
        Path document = Path.of(args.length > 0 ? args[0] : ".").resolve("../shared/DOC.md");
        if (!Files.exists(document)) {
            System.out.println("no " + document + ": the sentences are not held against it");
            return;
        }
        for (String section : Files.readString(document).split("(?m)^## ")) {
            int end = section.indexOf('\n');
            String title = section.substring(0, end).replaceAll(":.*", "");
            sections.put(title, section.substring(end));
        }
    }

    /** Runs the test of a sentence; the words must stand in the section. */
    void of(String section, String words, Runnable test) {
        check.about(section + ", '" + words + "'");
        check.holds("these words do not stand there",
                sections.isEmpty() || sections.getOrDefault(section, "").contains(words));
        check.holds("tested twice", tested.add(section + words));
        int before = check.asked();
        try {
            test.run();
        } catch (RuntimeException e) {
            check.holds("threw " + e, false);
        }
        check.holds("the test asked nothing", check.asked() > before);
    }

    /** Each line of a promise that tells a range or an exception must have had its test. */
    void everyPromisedLineHasATest() {
        check.about("every line");
        for (Map.Entry<String, String> section : sections.entrySet()) {
            if (section.getKey().startsWith("Promise ")) {
                for (String line : section.getValue().split("\n")) {
                    boolean tellsAnEdge = line.startsWith("- `") || line.startsWith("Throws ");
                    check.holds("no test of " + section.getKey() + ", " + line,
                            !tellsAnEdge || tested.contains(section.getKey() + line));
                }
            }
        }
    }

    /** The call takes the numbers 0 to end - 1 and finds no such worker, site, shift or week beyond. */
    void numbersBelow(String what, int end, IntConsumer call) {
        for (int good : new int[] {0, end - 1}) {
            check.fine(what + " " + good, () -> call.accept(good));
        }
        for (int bad : new int[] {Integer.MIN_VALUE, -1, end, end + 1, Integer.MAX_VALUE}) {
            check.noSuch(what + " " + bad, () -> call.accept(bad));
        }
    }

    /** The call takes the values from least to most and no other. */
    void range(String what, int least, int most, IntConsumer call) {
        for (int good : new int[] {least, most}) {
            check.fine(what + " " + good, () -> call.accept(good));
        }
        for (int bad : new int[] {Integer.MIN_VALUE, least - 1, most + 1, Integer.MAX_VALUE}) {
            check.badArgument(what + " " + bad, () -> call.accept(bad));
        }
    }
}
