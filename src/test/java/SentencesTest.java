import java.io.IOException;
import java.lang.reflect.Method;
import java.nio.file.Files;
import java.nio.file.Path;
import java.util.ArrayList;
import java.util.Arrays;
import java.util.Comparator;
import java.util.LinkedHashMap;
import java.util.List;
import java.util.Map;
import java.util.regex.Matcher;
import java.util.regex.Pattern;
import java.util.stream.Stream;

/**
 * Holds the tests and the document together: the sentence of each test stands in its section, and no
 * words that ask for something are without a test. With an argument it lists the tests of each.
 */
public final class SentencesTest {
    /** FaceTest holds the one; the other says what need not be held. */
    private static final List<String> WITHOUT_SENTENCES = List.of("The public face", "Not promised");
    private static final Pattern HEADING = Pattern.compile("(?m)^## (.*)$");
    /** A promise's signature, which FaceTest holds, and the marks of a block. */
    private static final Pattern NO_WORDS = Pattern.compile("(?s)^`[^`]*`: *|```(text)?");
    private static final Pattern WORDS_LEFT = Pattern.compile("[^\\x00]*[\\p{Alnum}][^\\x00]*");

    public static void main(String[] args) throws IOException, ClassNotFoundException {
        if (!Files.exists(Source.DOCUMENT)) {
            System.out.println("no " + Source.DOCUMENT + ", so that its sentences are not looked for");
            return;
        }
        Expect expect = new Expect();
        Map<String, String> sections = sections();
        List<Class<?>> classes = testClasses();
        for (Class<?> tests : classes) {
            checkSentences(expect, tests, sections);
        }
        for (String heading : sections.keySet()) {
            if (!WITHOUT_SENTENCES.contains(heading)) {
                checkWordsLeft(expect, heading, sections.get(heading), classes);
            }
        }
        if (args.length > 0) {
            list(sections, classes);
        }
        expect.end();
    }

    /** The text under each heading, in one line. */
    private static Map<String, String> sections() throws IOException {
        String document = Files.readString(Source.DOCUMENT);
        Map<String, String> sections = new LinkedHashMap<>();
        Matcher heading = HEADING.matcher(document);
        String name = null;
        int begin = 0;
        while (heading.find()) {
            add(sections, name, document.substring(begin, heading.start()));
            name = heading.group(1).trim();
            begin = heading.end();
        }
        add(sections, name, document.substring(begin));
        return sections;
    }

    private static void add(Map<String, String> sections, String name, String text) {
        if (name != null) {
            String words = NO_WORDS.matcher(text.trim()).replaceAll(" ");
            sections.put(name, words.replaceAll("\\s+", " ").trim());
        }
    }

    private static List<Class<?>> testClasses() throws IOException, ClassNotFoundException {
        List<Class<?>> classes = new ArrayList<>();
        try (Stream<Path> files = Files.list(Source.TESTS)) {
            for (Path file : files.sorted().toList()) {
                String name = file.getFileName().toString();
                if (name.endsWith("Test.java")) {
                    classes.add(Class.forName(name.replace(".java", "")));
                }
            }
        }
        classes.removeIf(tests -> !tests.isAnnotationPresent(Section.class));
        return classes;
    }

    private static String sectionOf(Class<?> tests) {
        return tests.getAnnotation(Section.class).value();
    }

    private static String sentenceOf(Method test) {
        return test.getAnnotation(Sentence.class).value();
    }

    private static void checkSentences(Expect expect, Class<?> tests, Map<String, String> sections) {
        String section = sections.getOrDefault(sectionOf(tests), "");
        for (Method test : Tests.of(tests)) {
            if (!section.contains(sentenceOf(test))) {
                expect.tell(tests.getSimpleName() + "." + test.getName() + ": \"" + sentenceOf(test)
                        + "\" does not stand in \"" + sectionOf(tests) + "\"");
            }
        }
    }

    private static void checkWordsLeft(Expect expect, String heading, String text, List<Class<?>> classes) {
        char[] left = text.toCharArray();
        for (Class<?> tests : classes) {
            if (sectionOf(tests).equals(heading)) {
                Tests.of(tests).forEach(test -> blot(left, text, sentenceOf(test)));
            }
        }
        Matcher words = WORDS_LEFT.matcher(new String(left));
        while (words.find()) {
            expect.tell("no test is for \"" + words.group().trim() + "\" in \"" + heading + "\"");
        }
    }

    private static void blot(char[] left, String text, String sentence) {
        for (int at = text.indexOf(sentence); at >= 0; at = text.indexOf(sentence, at + 1)) {
            Arrays.fill(left, at, at + sentence.length(), '\0');
        }
    }

    private static void list(Map<String, String> sections, List<Class<?>> classes) {
        sections.forEach((heading, text) -> {
            System.out.println(heading);
            classes.stream()
                    .filter(tests -> sectionOf(tests).equals(heading))
                    .flatMap(tests -> Tests.of(tests).stream())
                    .sorted(Comparator.comparing(test -> text.indexOf(sentenceOf(test))))
                    .forEach(test -> System.out.println("  " + test.getDeclaringClass().getSimpleName() + "."
                            + test.getName() + ": " + sentenceOf(test)));
        });
    }
}
