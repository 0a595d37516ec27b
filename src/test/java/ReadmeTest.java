import java.io.ByteArrayOutputStream;
import java.io.IOException;
import java.io.PrintStream;
import java.nio.file.Files;
import java.nio.file.Path;

/** README.md shows Example.java as it is, and names every call; the example prints what its own comments say. */
public final class ReadmeTest {
    private static final String[] CALLS = {"open", "input", "deliver", "drop", "copy", "spoil", "forward", "lie", "bend",
        "cut", "hide", "audit", "judge", "holds", "byteOf", "smudge", "verdict", "entry", "head", "about", "total"};

    public static void main(String[] args) throws IOException {
        Check.part("README.md");
        String readme = Files.readString(Path.of("README.md"));
        String example = Files.readString(Path.of("src/test/java/Example.java"));
        Check.due("shows Example.java", readme.contains("```java\n" + example + "```"), true);
        for (String call : CALLS) {
            Check.due("names " + call, readme.contains("| `" + call + "("), true);
        }
        Check.due("Example", printedByExample(), toldByComments(example));
        Check.end();
    }

    private static String printedByExample() {
        ByteArrayOutputStream printed = new ByteArrayOutputStream();
        PrintStream screen = System.out;
        System.setOut(new PrintStream(printed));
        try {
            Example.main(new String[0]);
        } finally {
            System.setOut(screen);
        }
        return printed.toString().replace(System.lineSeparator(), "\n");
    }

    private static String toldByComments(String example) {
        StringBuilder told = new StringBuilder();
        for (String line : example.split("\n")) {
            if (line.contains("println")) {
                String comment = line.substring(line.indexOf("// ") + 3);
                told.append(comment, 0, comment.indexOf(": ")).append('\n');
            }
        }
        return told.toString();
    }
}
