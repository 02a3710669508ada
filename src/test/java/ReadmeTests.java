import java.io.ByteArrayOutputStream;
import java.io.IOException;
import java.io.PrintStream;
import java.lang.reflect.Method;
import java.lang.reflect.Modifier;
import java.net.URL;
import java.net.URLClassLoader;
import java.nio.file.Files;
import java.nio.file.Path;
import java.util.ArrayList;
import java.util.List;
import java.util.regex.Matcher;
import java.util.regex.Pattern;
import javax.tools.ToolProvider;

/** What README.md says holds: its example answers as it says, its tables have the document's calls in order. */
public final class ReadmeTests {
    private static final Path README = Path.of("README.md");
    private static final Path DOCUMENT = Path.of("../shared/DOC.md");

    private static int wrong = 0;

    private static void must(boolean holds, String what) {
        if (!holds) {
            wrong++;
            System.out.println("README.md: " + what);
        }
    }

    /** What the pattern's first group finds, one after another. */
    private static List<String> found(String pattern, String text) {
        List<String> all = new ArrayList<>();
        Matcher m = Pattern.compile(pattern, Pattern.MULTILINE).matcher(text);
        while (m.find()) {
            all.add(m.group(1));
        }
        return all;
    }

    private static String javaBlock(String text) {
        List<String> blocks = found("^```java\n((?s:.*?))^```$", text);
        must(blocks.size() == 1, blocks.size() + " java blocks, due is one");
        return blocks.isEmpty() ? "" : blocks.get(0);
    }

    private static List<String> printedBy(String program) throws Exception {
        Path dir = Files.createTempDirectory("readme");
        Path source = dir.resolve("Example.java");
        Path compiled = dir.resolve("Example.class");
        PrintStream before = System.out;
        ByteArrayOutputStream printed = new ByteArrayOutputStream();
        try (URLClassLoader loader = new URLClassLoader(new URL[] {dir.toUri().toURL()})) {
            Files.writeString(source, program);
            int code = ToolProvider.getSystemJavaCompiler().run(null, null, null, "--release", "17",
                "-cp", System.getProperty("java.class.path"), "-d", dir.toString(), source.toString());
            must(code == 0, "the example does not compile");
            if (code == 0) {
                System.setOut(new PrintStream(printed, true));
                loader.loadClass("Example").getMethod("main", String[].class).invoke(null, (Object) new String[0]);
            }
        } finally {
            System.setOut(before);
            Files.deleteIfExists(compiled);
            Files.deleteIfExists(source);
            Files.deleteIfExists(dir);
        }
        return printed.toString().lines().toList();
    }

    private static void exampleAnswersAsItSays(String program) throws Exception {
        List<String> said = found("^ *say\\((.*)$", program);
        List<String> answers = printedBy(program);
        must(!said.isEmpty() && said.size() == answers.size(), said.size() + " calls, " + answers.size() + " answers");
        for (int i = 0; i < Math.min(said.size(), answers.size()); i++) {
            must(said.get(i).matches(".*// " + answers.get(i) + "(:.*)?"), said.get(i) + " answered " + answers.get(i));
        }
    }

    private static void everyCallIsShown(String program, List<String> rows) {
        for (Method m : VoteAuctions.class.getDeclaredMethods()) {
            if (Modifier.isPublic(m.getModifiers())) {
                must(program.contains("x." + m.getName() + "("), "the example does not use " + m.getName());
                must(rows.stream().filter(r -> r.startsWith(m.getName() + "(")).count() == 1, "one row for " + m.getName());
            }
        }
    }

    private static void rowsAreInTheDocumentsOrder(List<String> rows) throws IOException {
        if (Files.isReadable(DOCUMENT)) {
            List<String> face = found("^    public (?:int|long) (.*\\));$", Files.readString(DOCUMENT));
            face.replaceAll(call -> call.replaceAll("\\b(int|long) ", ""));
            must(rows.equals(face), "the calls are " + rows + ", the document has " + face);
        }
    }

    /** The refusals of a row are those of its promise, but for the words behind them. */
    private static void refusalsAreThoseOfThePromise(String text) throws IOException {
        if (!Files.isReadable(DOCUMENT)) {
            return;
        }
        String document = Files.readString(DOCUMENT);
        List<String> names = found("^\\| `(\\w+)\\(.*\\)`.*$", text);
        List<String> refused = found("^\\| `\\w+\\(.*\\)`.*\\|([^|]*)\\|$", text);
        for (int i = 0; i < names.size(); i++) {
            String name = names.get(i);
            String promise = String.join("", found("^`\\w+ " + name + "\\(.*?\\)`: (.*)$", document));
            // The refusals stand behind the last sentence's end; what the call answers stands ahead of it.
            String due = String.join("", found("[.] (-\\d.*)$", promise));
            must(found("(-\\d)", refused.get(i)).equals(found("(-\\d)", due)), name + " refuses" + refused.get(i));
        }
    }

    public static void main(String[] args) throws Exception {
        String text = Files.readString(README);
        String program = javaBlock(text);
        List<String> rows = found("^\\| `(\\w+\\(.*?\\))` \\|.*$", text);
        exampleAnswersAsItSays(program);
        everyCallIsShown(program, rows);
        rowsAreInTheDocumentsOrder(rows);
        refusalsAreThoseOfThePromise(text);
        System.out.println(wrong == 0 ? "README.md is right" : wrong + " things in README.md are not right");
        if (wrong != 0) {
            System.exit(1);
        }
    }
}
