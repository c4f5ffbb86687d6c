import java.io.IOException;
import java.nio.file.Files;
import java.nio.file.Path;
import java.util.ArrayList;
import java.util.List;
import java.util.regex.Matcher;
import java.util.regex.Pattern;

/** The text of the class, without comments and texts, and its methods. */
final class Source {
    private static final Path FILE = Path.of("src", "main", "java", "ApartSteps.java");
    /** A method's end is the first brace that stands as far to the right as its beginning. */
    private static final Pattern METHOD = Pattern.compile(
            "^( {4}| {8})(?:(?:public|private|static) )*(?:\\w+ )?(\\w+)\\([^)]*\\)[^;{]*\\{\n(.*?)^\\1\\}$",
            Pattern.MULTILINE | Pattern.DOTALL);

    record Body(String name, String text) {
    }

    private Source() {
    }

    static String asWritten() throws IOException {
        return Files.readString(FILE);
    }

    static String bare() throws IOException {
        return asWritten().replaceAll("(?s)/\\*.*?\\*/", "").replaceAll("//[^\n]*", "")
                .replaceAll("\"[^\"\n]*\"", "\"\"");
    }

    static List<Body> methods() throws IOException {
        List<Body> methods = new ArrayList<>();
        Matcher matcher = METHOD.matcher(bare());
        while (matcher.find()) {
            methods.add(new Body(matcher.group(2), matcher.group(3)));
        }
        return methods;
    }
}
