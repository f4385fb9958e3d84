import java.io.IOException;
import java.lang.reflect.Method;
import java.lang.reflect.Modifier;
import java.nio.file.Files;
import java.nio.file.Path;
import java.util.regex.Matcher;
import java.util.regex.Pattern;

/** What README.md says: its example answers as its remarks tell, and its table has each call once. */
public final class ReadmeTest {
    private static final Check CHECK = new Check("ReadmeTest");
    private static String page;
    private static int lines;

    private ReadmeTest() {
    }

    public static void main(String[] args) throws IOException {
        Path root = Path.of(args.length > 0 ? args[0] : ".");
        page = Files.readString(root.resolve("README.md"));
        example();
        table();
        namesItsTests(root);
        CHECK.end();
    }

    private static void example() {
        AssignmentHouse house = new AssignmentHouse();
        int first = house.shift(0, 2, 0, 10);
        next("int first = house.shift(0, 2, 0, 10);", first);
        next("house.overtime(first);", house.overtime(first));
        next("house.payOf(first);", house.payOf(first));
        next("house.chargeOf(first);", house.chargeOf(first));
        next("house.run(0);", house.run(0));
        next("house.correct(first, 8);", house.correct(first, 8));
        next("house.owing(0, 0);", house.owing(0, 0));
        next("house.run(0);", house.run(0));
        next("house.billed(2, 0);", house.billed(2, 0));
        next("house.takeHoliday(0, 50);", house.takeHoliday(0, 50));
        CHECK.same("lines of the example with an answer", remarks().length, lines);
    }

    private static String[] remarks() {
        int start = page.indexOf("```java\n");
        String code = page.substring(start, page.indexOf("\n```\n", start));
        return code.lines().filter(line -> line.contains("//")).toArray(String[]::new);
    }

    /** The next line of the example must be this call, with this answer at the start of its remark. */
    private static void next(String call, int answer) {
        String[] all = remarks();
        String line = lines < all.length ? all[lines] : "";
        lines++;
        CHECK.holds("'" + line + "' is not " + call + " with " + answer,
                line.matches(Pattern.quote(call) + " *// " + answer + ": .*"));
    }

    private static void table() {
        int calls = 0;
        for (Method method : AssignmentHouse.class.getDeclaredMethods()) {
            if (Modifier.isPublic(method.getModifiers())) {
                calls++;
                int parameters = method.getParameterCount();
                String list = parameters == 0 ? "" : "\\w+" + ", \\w+".repeat(parameters - 1);
                CHECK.same("rows of " + method.getName(), rows("\\| `" + method.getName() + "\\(" + list + "\\)` \\|"), 1);
            }
        }
        CHECK.same("rows of calls", rows("\\| `\\w+\\([^`]*\\)` \\|"), calls);
    }

    private static int rows(String start) {
        Matcher matcher = Pattern.compile("(?m)^" + start).matcher(page);
        int count = 0;
        while (matcher.find()) {
            count++;
        }
        return count;
    }

    private static void namesItsTests(Path root) throws IOException {
        try (var files = Files.newDirectoryStream(root.resolve("src/test/java"), "*Test.java")) {
            for (Path file : files) {
                String name = file.getFileName().toString().replace(".java", "");
                CHECK.same("rows of " + name, rows("\\| `" + name + "` \\|"), 1);
            }
        }
    }
}
