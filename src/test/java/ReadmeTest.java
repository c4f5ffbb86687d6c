import java.io.IOException;
import java.lang.reflect.Method;
import java.lang.reflect.Modifier;
import java.nio.file.DirectoryStream;
import java.nio.file.Files;
import java.nio.file.Path;
import java.util.Arrays;
import java.util.Set;
import java.util.TreeSet;
import java.util.regex.Matcher;
import java.util.regex.Pattern;

/** The calls that README.md shows answer what it says, and it shows each method and names each test. */
public final class ReadmeTest {
    private static final Path README = Path.of("README.md");
    private static final Path TESTS = Path.of("src", "test", "java");
    private static final Pattern BLOCK = Pattern.compile("^```java\n(.*?)^```$", Pattern.MULTILINE | Pattern.DOTALL);
    private static final String NEW_OBJECT = "ApartSteps steps = new ApartSteps();\n";
    private static final String TYPED = "for \\(char c : \"(?<text>[!-~&&[^\"\\\\]]*)\"\\.toCharArray\\(\\)\\) \\{\n"
            + "    steps\\.append\\(c\\);\n\\}\n";
    private static final String CALL = "steps\\.(?<name>\\w+)\\((?<arguments>(?:\\d+(?:, \\d+)*)?)\\); +"
            + "// (?<due>(?:throws )?[\\w.-]+)(?:: [^\n]+)?\n";
    private static final Pattern STATEMENT = Pattern.compile(TYPED + "|" + CALL);

    private final Report report = new Report("ReadmeTest");
    private final String page;
    private final Set<String> shown = new TreeSet<>();
    private int line;

    private ReadmeTest(String page) {
        this.page = page;
    }

    public static void main(String[] arguments) throws IOException {
        ReadmeTest test = new ReadmeTest(Files.readString(README));
        Matcher block = BLOCK.matcher(test.page);
        int blocks = 0;
        while (block.find()) {
            test.line = (int) test.page.substring(0, block.start(1)).lines().count() + 1;
            test.makeCalls(block.group(1));
            blocks++;
        }
        test.report.due("the pieces of Java", blocks, test.page.split("```java").length - 1);
        test.methodsAreShown();
        test.testsAreNamed();
        test.report.end();
    }

    /** Each piece begins with a new object; then there is nothing but statements of the two kinds. */
    private void makeCalls(String block) {
        report.due(where() + "begins with a new object", block.startsWith(NEW_OBJECT), true);
        ApartSteps steps = new ApartSteps();
        Matcher statement = STATEMENT.matcher(block);
        int end = block.indexOf('\n') + 1;
        int firstLine = line;
        while (statement.find()) {
            line = firstLine + (int) block.substring(0, statement.start()).lines().count();
            report.due(where() + "what can't be read", block.substring(end, statement.start()), "");
            end = statement.end();
            makeCall(steps, statement);
        }
        report.due(where() + "what can't be read behind it", block.substring(end), "");
    }

    private void makeCall(ApartSteps steps, Matcher statement) {
        if (statement.group("text") != null) {
            type(steps, statement.group("text"));
            return;
        }
        String name = statement.group("name");
        String arguments = statement.group("arguments");
        int[] numbers = arguments.isEmpty() ? new int[0]
                : Arrays.stream(arguments.split(", ")).mapToInt(Integer::parseInt).toArray();
        shown.add(name);
        report.due(where() + Face.told(name, numbers), Face.ask(steps, name, numbers),
                statement.group("due").replace("throws ", "throws."));
    }

    private void type(ApartSteps steps, String text) {
        shown.add("append");
        for (int i = 0; i < text.length(); i++) {
            report.due(where() + "append", steps.append(text.charAt(i)), i + 1);
        }
    }

    private String where() {
        return "README.md, line " + line + ": ";
    }

    private void methodsAreShown() {
        Set<String> face = new TreeSet<>();
        for (Method method : ApartSteps.class.getDeclaredMethods()) {
            if (Modifier.isPublic(method.getModifiers())) {
                face.add(method.getName());
            }
        }
        report.due("the methods that README.md shows", shown, face);
    }

    private void testsAreNamed() throws IOException {
        try (DirectoryStream<Path> files = Files.newDirectoryStream(TESTS, "*Test.java")) {
            for (Path file : files) {
                String name = file.getFileName().toString().replace(".java", "");
                report.due("README.md names " + name, page.contains("`" + name + "`"), true);
            }
        }
    }
}
