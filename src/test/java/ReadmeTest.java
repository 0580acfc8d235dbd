import java.io.IOException;
import java.lang.reflect.Method;
import java.lang.reflect.Modifier;
import java.nio.file.Files;
import java.nio.file.Path;
import java.util.regex.Matcher;
import java.util.regex.Pattern;

/** README.md says how to use the class: it names the whole face, and what it says of examples is so. */
public final class ReadmeTest {
    private static final Pattern EXAMPLE =
        Pattern.compile("\\| `(?<code>[^`]*)` \\| (?<units>-?[0-9]+) \\| (?<shown>`[^`]*`|not shown) \\|.*");
    private static final int LEAST_EXAMPLES = 12;

    public static void main(String[] args) throws IOException {
        String readme = Files.readString(Path.of("README.md"));
        namesTheFace(readme);
        namesTheTests(readme);
        namesTheLimits(readme);
        examplesAreSo(readme);
        programIsSo();
        Check.end();
    }

    private static void names(String readme, String words) {
        Check.due("README.md says " + words, readme.contains(words), true);
    }

    private static void namesTheFace(String readme) {
        for (Method m : CellFormatter.class.getDeclaredMethods()) {
            if (Modifier.isPublic(m.getModifiers())) {
                names(readme, "| `" + m.getReturnType() + " " + m.getName() + "(");
            }
        }
        names(readme, "| `CellFormatter()`");
        names(readme, "`NOTSHOWN` (-1)");
        names(readme, "`NOCODE` (-2)");
        names(readme, "`BAD` (-3)");
    }

    private static void namesTheTests(String readme) throws IOException {
        names(readme, "    .ci/run\n");
        try (var files = Files.newDirectoryStream(Path.of("src/test/java"), "*Test.java")) {
            for (Path file : files) {
                names(readme, "| `" + file.getFileName().toString().replace(".java", "") + "` |");
            }
        }
    }

    private static void namesTheLimits(String readme) {
        names(readme, "512 calls");
        names(readme, "40 characters");
        names(readme, "-10^15 to 10^15");
    }

    private static void examplesAreSo(String readme) {
        int examples = 0;
        for (String line : readme.split("\n")) {
            Matcher example = EXAMPLE.matcher(line);
            if (!example.matches()) {
                continue;
            }
            examples++;
            String got = Check.shown(Check.compiled(example.group("code")), Long.parseLong(example.group("units")));
            Check.due(line, got == null ? "not shown" : "`" + got + "`", example.group("shown"));
        }
        Check.due("README.md has examples", examples >= LEAST_EXAMPLES, true);
    }

    /** The calls of the program that README.md shows. */
    private static void programIsSo() {
        CellFormatter x = new CellFormatter();
        Check.feedAll(x, "#,##0.00;(0.0);\"none\"");
        Check.due("compile", x.compile(), 3);
        Check.due("show", x.show(1234567891L), 8);
        Check.due("text", Check.text(x), "1,234.57");
        Check.due("section", x.section(), 0);
        Check.due("date", x.date(60, 2), 29);
        x.calendar(true);
        Check.due("serial", x.serial(1904, 1, 1), 0);
    }
}
