import java.io.IOException;
import java.lang.reflect.Method;
import java.nio.file.DirectoryStream;
import java.nio.file.Files;
import java.nio.file.Path;
import java.util.ArrayList;
import java.util.Arrays;
import java.util.List;
import java.util.Map;
import java.util.Set;
import java.util.TreeMap;
import java.util.TreeSet;

/** Each piece of the document's sentences has a test that is marked with it, and each mark is a piece of the document. */
public final class SentencesTest {
    private static final Path DOCUMENT = Path.of("..", "shared", "DOC.md");
    private static final Path TESTS = Path.of("src", "test", "java");
    private static final String END_OF_PIECE = "(?<=[a-z0-9)]\\.|\\.\\)) (?=[A-Z(])|(?<=;) ";
    private static final List<Class<? extends Bounds>> CLASSES = List.of(StallBoundsTest.class, StreamBoundsTest.class,
            TextBoundsTest.class, UndoBoundsTest.class, NumberBoundsTest.class, LookBoundsTest.class);
    /** Beginnings of the pieces that name no boundary: what it is about, what is free, which calls belong together. */
    private static final List<String> WITHOUT_TEST = List.of("Numbers spoken in steps", "what later calls answer is free",
            "Told by gaps: for the steps of the number", "Ahead of the calls `");

    private final Report report = new Report("SentencesTest");
    private final Map<Integer, List<String>> chapters = new TreeMap<>();
    private final List<String> terms = new ArrayList<>();
    private final Map<Integer, Set<String>> marks = new TreeMap<>();

    public static void main(String[] arguments) throws IOException {
        SentencesTest test = new SentencesTest();
        test.readDocument();
        test.readMarks();
        test.sentencesHaveTests();
        test.marksAreOfTheDocument();
        test.classesAreComplete();
        test.report.end();
    }

    private void readDocument() throws IOException {
        List<String> sentences = terms;
        boolean code = false;
        for (String line : Files.readAllLines(DOCUMENT)) {
            if (line.startsWith("## Promise ")) {
                sentences = new ArrayList<>();
                chapters.put(Integer.parseInt(line.substring(11, line.indexOf(':'))), sentences);
            } else if (line.startsWith("## Not promised")) {
                return;
            } else if (line.startsWith("```")) {
                code = !code;
            } else if (!code && !line.isEmpty() && !line.startsWith("#")) {
                addSentences(sentences, line);
            }
        }
    }

    /** A line without a full stop, among the terms, is a title. */
    private void addSentences(List<String> sentences, String line) {
        if (sentences == terms && !line.endsWith(".")) {
            return;
        }
        boolean signature = line.startsWith("`");
        String text = signature ? line.substring(line.indexOf("`: ") + 3) : line.startsWith("- ") ? line.substring(2) : line;
        sentences.addAll(Arrays.asList(text.split(END_OF_PIECE)));
    }

    private void readMarks() {
        for (Class<? extends Bounds> type : CLASSES) {
            for (Method test : Bounds.testsOf(type)) {
                Says says = test.getAnnotation(Says.class);
                marks.computeIfAbsent(says.promise(), p -> new TreeSet<>()).add(says.it());
            }
        }
    }

    private void sentencesHaveTests() {
        report.due("promises with tests", marks.keySet(), chapters.keySet());
        for (Map.Entry<Integer, List<String>> chapter : chapters.entrySet()) {
            for (String sentence : chapter.getValue()) {
                Set<String> own = marks.getOrDefault(chapter.getKey(), Set.of());
                report.due("promise " + chapter.getKey() + ": " + sentence, isMarked(sentence, own), true);
            }
        }
        Set<String> all = new TreeSet<>();
        marks.values().forEach(all::addAll);
        for (String sentence : terms) {
            boolean free = WITHOUT_TEST.stream().anyMatch(sentence::startsWith);
            report.due("terms: " + sentence, free || isMarked(sentence, all), true);
        }
    }

    private static boolean isMarked(String sentence, Set<String> own) {
        return own.stream().anyMatch(mark -> mark.contains(sentence) || sentence.contains(mark));
    }

    private void marksAreOfTheDocument() {
        String general = String.join(" ", terms);
        for (Map.Entry<Integer, Set<String>> own : marks.entrySet()) {
            String text = String.join(" ", chapters.getOrDefault(own.getKey(), List.of()));
            for (String mark : own.getValue()) {
                boolean found = text.contains(mark) || general.contains(mark);
                report.due("promise " + own.getKey() + ": in the document is " + mark, found, true);
            }
        }
    }

    private void classesAreComplete() throws IOException {
        Set<String> files = new TreeSet<>();
        try (DirectoryStream<Path> found = Files.newDirectoryStream(TESTS, "*BoundsTest.java")) {
            found.forEach(path -> files.add(path.getFileName().toString().replace(".java", "")));
        }
        Set<String> listed = new TreeSet<>();
        CLASSES.forEach(type -> listed.add(type.getSimpleName()));
        report.due("the classes whose marks are read", listed, files);
    }
}
