import java.io.IOException;
import java.nio.file.Files;
import java.nio.file.Path;
import java.util.ArrayList;
import java.util.List;
import java.util.regex.Matcher;
import java.util.regex.Pattern;

/** What stands in the program's file and in the texts about it. */
final class Source {
    static final Path PROGRAM = Path.of("src/main/java/GrantDesk.java");
    static final Path TESTS = Path.of("src/test/java");
    static final Path README = Path.of("README.md");
    static final Path DOCUMENT = Path.of("../shared/DOC.md");
    private static final Pattern PUBLIC =
            Pattern.compile("public ((?:\\w+ )?\\w+\\([^)]*\\)(?: throws \\w+(?:, \\w+)*)?) ?[;{]");
    private static final Pattern HEADING = Pattern.compile("(?m)^#+ (.*)$");

    private Source() {
    }

    /** The public constructors and methods that are declared in a text, in its order, each in one line. */
    static List<String> face(String text) {
        List<String> face = new ArrayList<>();
        Matcher declared = PUBLIC.matcher(text.replaceAll("\\s+", " "));
        while (declared.find()) {
            face.add(declared.group(1));
        }
        return face;
    }

    static List<String> faceOfProgram() throws IOException {
        return face(Files.readString(PROGRAM));
    }

    /** What stands in a file of Markdown under a heading, up to the next one of any depth. */
    static String section(Path file, String name) throws IOException {
        String text = Files.readString(file);
        Matcher heading = HEADING.matcher(text);
        while (heading.find()) {
            if (heading.group(1).trim().equals(name)) {
                int begin = heading.end();
                return text.substring(begin, heading.find() ? heading.start() : text.length());
            }
        }
        return "";
    }
}
