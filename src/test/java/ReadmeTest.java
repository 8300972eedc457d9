import java.io.ByteArrayOutputStream;
import java.io.File;
import java.io.PrintStream;
import java.net.URL;
import java.net.URLClassLoader;
import java.nio.file.Files;
import java.nio.file.Path;
import java.util.List;
import java.util.regex.Matcher;
import java.util.regex.Pattern;
import javax.tools.ToolProvider;

/** README.md: its example, compiled and run as it stands, prints what its comments say. */
public final class ReadmeTest {
    private static final Path README = Path.of("README.md");
    private static final Pattern EXAMPLE = Pattern.compile("(?s)```java\n(.*?)```");
    private static final Pattern ANSWER = Pattern.compile("System\\.out\\.println\\((.*)\\);\\s*//\\s*(-?\\d+)");
    private static final Check CHECK = new Check("ReadmeTest");

    public static void main(String[] args) throws Exception {
        String page = Files.readString(README);
        Matcher example = EXAMPLE.matcher(page);
        CHECK.that("there is an example", example.find());
        answersAsItSays(example.group(1));
        refusals(page);
        CHECK.that("the command that runs all tests", page.contains("\n.ci/run\n"));
        CHECK.finish();
    }

    private static void answersAsItSays(String example) throws Exception {
        List<String> printed = run(example);
        int prints = example.split("println", -1).length - 1;
        CHECK.due("lines that the example prints", printed.size(), prints);
        int n = 0;
        Matcher answer = ANSWER.matcher(example);
        while (answer.find() && n < printed.size()) {
            CHECK.due(answer.group(1), Integer.parseInt(printed.get(n)), Integer.parseInt(answer.group(2)));
            n++;
        }
        CHECK.due("answers that the comments tell", n, prints);
    }

    /** The table tells each of the four with its number. */
    private static void refusals(String page) {
        CHECK.that("BAD", page.contains("`PencilForms.BAD` | " + PencilForms.BAD + " |"));
        CHECK.that("STATE", page.contains("`PencilForms.STATE` | " + PencilForms.STATE + " |"));
        CHECK.that("FULL", page.contains("`PencilForms.FULL` | " + PencilForms.FULL + " |"));
        CHECK.that("NONE", page.contains("`PencilForms.NONE` | " + PencilForms.NONE + " |"));
    }

    private static List<String> run(String example) throws Exception {
        Path folder = Files.createTempDirectory("readme");
        Path source = folder.resolve("Example.java");
        Path compiled = folder.resolve("Example.class");
        PrintStream out = System.out;
        ByteArrayOutputStream caught = new ByteArrayOutputStream();
        try {
            Files.writeString(source, example);
            String[] options = {"-cp", System.getProperty("java.class.path"), "-d", folder.toString(), source.toString()};
            CHECK.due("the example compiles", ToolProvider.getSystemJavaCompiler().run(null, null, null, options), 0);
            System.setOut(new PrintStream(caught, true));
            try (URLClassLoader loader = new URLClassLoader(new URL[] {folder.toUri().toURL()})) {
                loader.loadClass("Example").getMethod("main", String[].class).invoke(null, (Object) new String[0]);
            }
        } finally {
            System.setOut(out);
            for (File file : new File[] {source.toFile(), compiled.toFile(), folder.toFile()}) {
                file.delete();
            }
        }
        return caught.toString().lines().toList();
    }
}
