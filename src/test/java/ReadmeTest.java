import java.io.ByteArrayOutputStream;
import java.io.IOException;
import java.io.PrintStream;
import java.nio.charset.StandardCharsets;
import java.nio.file.DirectoryStream;
import java.nio.file.Files;
import java.nio.file.Path;
import java.util.ArrayList;
import java.util.List;
import java.util.Set;
import java.util.TreeSet;
import java.util.regex.Matcher;
import java.util.regex.Pattern;

/** README.md: each call of the document's face, an example that holds, and the tests that there are. */
public final class ReadmeTest {
    private static final Path TESTS = Path.of("src", "test", "java");
    private static final Path EXAMPLE = TESTS.resolve("ReadmeExample.java");
    private static final Path DOCUMENT = Path.of("..", "shared", "DOC.md");
    private static final Pattern FACE_LINE = Pattern.compile("public ([^;={]*\\))( throws (\\w+))?;");
    private static final Pattern TEST_ROW = Pattern.compile("(?m)^\\| (\\w+Test) \\|");
    private static final int CALLS = 17;

    public static void main(String[] args) throws IOException {
        String readme = Files.readString(Path.of("README.md"));
        calls(readme);
        example(readme);
        tests(readme);
        Due.yes("it says how the tests are run", readme.contains("\n    .ci/run\n"));
        Due.end("ReadmeTest");
    }

    /** A row for each call of the face, with what it throws; no row for anything else. */
    private static void calls(String readme) throws IOException {
        List<String> due = new ArrayList<>();
        Matcher face = FACE_LINE.matcher(block(Files.readString(DOCUMENT), "java"));
        while (face.find()) {
            due.add(face.group(1) + " throws " + (face.group(3) == null ? "nothing" : face.group(3)));
        }
        Due.is("calls of the face", due.size(), CALLS);
        List<String> told = new ArrayList<>();
        for (String line : readme.split("\n")) {
            String[] row = line.split("\\|");
            if (row.length >= 4 && row[1].startsWith(" `") && row[1].endsWith(")` ")) {
                String thrown = row[3].strip();
                told.add(row[1].substring(2, row[1].length() - 2)
                    + " throws " + (thrown.isEmpty() ? "nothing" : thrown));
            }
        }
        Due.same("the calls that README.md tells", told, due);
    }

    private static void example(String readme) throws IOException {
        String source = Files.readString(EXAMPLE);
        Due.same("the example", block(readme, "java"), source.substring(source.indexOf("public ")));
        for (var method : FireWards.class.getDeclaredMethods()) {
            if (java.lang.reflect.Modifier.isPublic(method.getModifiers())) {
                Due.yes("the example calls " + method.getName(), source.contains("." + method.getName() + "("));
            }
        }
        Due.same("what it prints", printed(), block(readme, "text"));
    }

    private static String printed() {
        PrintStream before = System.out;
        ByteArrayOutputStream bytes = new ByteArrayOutputStream();
        System.setOut(new PrintStream(bytes, true, StandardCharsets.UTF_8));
        try {
            ReadmeExample.main(new String[0]);
        } finally {
            System.setOut(before);
        }
        return bytes.toString(StandardCharsets.UTF_8).replace(System.lineSeparator(), "\n");
    }

    private static void tests(String readme) throws IOException {
        Set<String> due = new TreeSet<>();
        try (DirectoryStream<Path> files = Files.newDirectoryStream(TESTS, "*Test.java")) {
            for (Path file : files) {
                due.add(file.getFileName().toString().replace(".java", ""));
            }
        }
        Set<String> told = new TreeSet<>();
        Matcher rows = TEST_ROW.matcher(readme);
        while (rows.find()) {
            told.add(rows.group(1));
        }
        Due.same("the tests that README.md tells", told, due);
    }

    /** What stands in the first block of that kind; nothing without one. */
    private static String block(String text, String kind) {
        Matcher found = Pattern.compile("(?s)```" + kind + "\n(.*?)```").matcher(text);
        return found.find() ? found.group(1) : "";
    }
}
