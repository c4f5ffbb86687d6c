import java.io.ByteArrayInputStream;
import java.io.DataInputStream;
import java.io.IOException;
import java.io.InputStream;
import java.lang.reflect.Constructor;
import java.lang.reflect.Field;
import java.lang.reflect.Method;
import java.lang.reflect.Modifier;
import java.nio.file.Files;
import java.nio.file.Path;
import java.util.ArrayList;
import java.util.Arrays;
import java.util.List;
import java.util.Set;
import java.util.TreeSet;
import java.util.regex.Matcher;
import java.util.regex.Pattern;
import java.util.stream.Collectors;

/** The face of the document, and the rules of ../shared/LANGUAGE.md that a program can look for. */
public final class LanguageTest {
    private static final Path DOCUMENT = Path.of("../shared/DOC.md");
    /** All that the program uses of the library, but for the making of exceptions. */
    private static final Set<String> LIBRARY = Set.of("java/lang/Object.<init>", "java/lang/Integer.bitCount");
    private static final Set<String> EXCEPTIONS = Set.of("java/lang/IndexOutOfBoundsException.<init>",
        "java/lang/IllegalArgumentException.<init>", "java/lang/IllegalStateException.<init>");
    private static final String[] FORBIDDEN = {
        "import", "package", "try", "catch", "finally", "synchronized", "assert", "native", "volatile", "transient",
        "while\\s*\\(\\s*true", "for\\s*\\(\\s*;", "->", "::", "instanceof", "protected", "equals", "hashCode", "toString",
        "System", "Math", "Double", "Float", "Thread", "Random"
    };

    private final Report report = new Report("LanguageTest");

    public static void main(String[] arguments) throws IOException {
        LanguageTest test = new LanguageTest();
        test.face();
        test.names();
        test.source();
        for (Class<?> type : types()) {
            test.fields(type);
            test.library(type);
        }
        test.nothingIsMade();
        test.report.end();
    }

    private static List<Class<?>> types() {
        List<Class<?>> types = new ArrayList<>(Arrays.asList(ApartSteps.class.getDeclaredClasses()));
        types.add(ApartSteps.class);
        return types;
    }

    private static String told(Method method) {
        String parameters = Arrays.stream(method.getParameterTypes()).map(Class::getSimpleName)
                .collect(Collectors.joining(", "));
        String thrown = Arrays.stream(method.getExceptionTypes()).map(Class::getSimpleName)
                .collect(Collectors.joining(", "));
        return method.getReturnType().getSimpleName() + " " + method.getName() + "(" + parameters + ")"
                + (thrown.isEmpty() ? "" : " throws " + thrown);
    }

    /** The document's face, each line without the names of its parameters. */
    private static Set<String> documentFace() throws IOException {
        Set<String> face = new TreeSet<>();
        Matcher matcher = Pattern.compile("^    public (\\w+ \\w+\\(.*);$", Pattern.MULTILINE)
                .matcher(Files.readString(DOCUMENT));
        while (matcher.find()) {
            face.add(matcher.group(1).replaceAll("int \\w+([,)])", "int$1"));
        }
        return face;
    }

    private void face() throws IOException {
        Set<String> made = new TreeSet<>();
        for (Method method : ApartSteps.class.getDeclaredMethods()) {
            if (!Modifier.isPrivate(method.getModifiers())) {
                report.due(method + " is public alone", method.getModifiers(), Modifier.PUBLIC);
                made.add(told(method));
            }
        }
        report.due("the face", made, documentFace());
        report.due("the number of methods", made.size(), 44);
        report.due("the class", ApartSteps.class.getModifiers(), Modifier.PUBLIC | Modifier.FINAL);
        report.due("the class above", ApartSteps.class.getSuperclass(), Object.class);
        Constructor<?>[] constructors = ApartSteps.class.getDeclaredConstructors();
        report.due("the constructors", Arrays.toString(constructors), "[public ApartSteps()]");
    }

    private void names() {
        Set<String> open = new TreeSet<>();
        for (Method method : ApartSteps.class.getMethods()) {
            open.add(method.getName());
        }
        for (Class<?> type : types()) {
            for (Method method : type.getDeclaredMethods()) {
                if (type != ApartSteps.class || Modifier.isPrivate(method.getModifiers())) {
                    report.due(method + " has a name of the face", open.contains(method.getName()), false);
                }
                report.due(method + " has too many parameters", method.getParameterCount() > 7, false);
            }
        }
        report.due("there are too many classes", types().size() > 12, false);
    }

    private void fields(Class<?> type) {
        int own = 0;
        for (Field field : type.getDeclaredFields()) {
            boolean ofClass = Modifier.isStatic(field.getModifiers());
            report.due(field + " is static and not final", ofClass && !Modifier.isFinal(field.getModifiers()), false);
            own += ofClass ? 0 : 1;
            if (type == ApartSteps.class) {
                report.due(field + " is private", Modifier.isPrivate(field.getModifiers()), true);
            }
        }
        report.due(type + " has too many fields", own > 20, false);
        if (type != ApartSteps.class) {
            report.due(type + " is static", Modifier.isStatic(type.getModifiers()), true);
        }
    }

    private void source() throws IOException {
        String bare = Source.bare();
        for (String word : FORBIDDEN) {
            String pattern = Character.isLetter(word.charAt(0)) ? "\\b" + word + "\\b" : word;
            Matcher matcher = Pattern.compile(pattern).matcher(bare);
            report.due("the source has " + word, matcher.find(), false);
        }
        report.due("a sign is not ASCII", Source.asWritten().chars().anyMatch(c -> c > 126), false);
        Matcher thrown = Pattern.compile("\\bthrow (?!new I\\w+Exception\\(\"\"\\);)").matcher(bare);
        report.due("an exception is thrown in another way", thrown.find(), false);
    }

    // What a call makes is counted for a whole run: only constructors and thrown exceptions make objects.
    private void nothingIsMade() throws IOException {
        for (String line : Source.bare().split("\n")) {
            boolean makes = line.contains("new ");
            boolean allowed = line.contains("throw new ") || line.matches(" {4}( {4})?private final .*")
                    || line.matches(" {12}saved\\[i\\] = new State\\(\\);");
            report.due("a call makes an object: " + line, makes && !allowed, false);
        }
    }

    private void library(Class<?> type) throws IOException {
        for (String used : usedMethods(type)) {
            boolean own = used.startsWith("ApartSteps");
            report.due(type.getName() + " uses " + used,
                own || LIBRARY.contains(used) || EXCEPTIONS.contains(used), true);
        }
    }

    /** The methods in the constant pool of a class file, as owner.name; an invokedynamic as such. */
    private static List<String> usedMethods(Class<?> type) throws IOException {
        try (InputStream file = type.getResourceAsStream("/" + type.getName() + ".class")) {
            DataInputStream in = new DataInputStream(new ByteArrayInputStream(file.readAllBytes()));
            in.skipBytes(8);
            int size = in.readUnsignedShort();
            String[] texts = new String[size];
            int[][] pairs = new int[size][];
            int[] tags = new int[size];
            for (int i = 1; i < size; i++) {
                tags[i] = in.readUnsignedByte();
                switch (tags[i]) {
                    case 1 -> texts[i] = in.readUTF();
                    case 3, 4 -> in.skipBytes(4);
                    case 5, 6 -> {
                        in.skipBytes(8);
                        i++;
                    }
                    case 7, 8, 16, 19, 20 -> pairs[i] = new int[] {in.readUnsignedShort(), 0};
                    case 15 -> in.skipBytes(3);
                    default -> pairs[i] = new int[] {in.readUnsignedShort(), in.readUnsignedShort()};
                }
            }
            List<String> used = new ArrayList<>();
            for (int i = 1; i < size; i++) {
                if (tags[i] == 10 || tags[i] == 11) {
                    used.add(texts[pairs[pairs[i][0]][0]] + "." + texts[pairs[pairs[i][1]][0]]);
                } else if (tags[i] == 17 || tags[i] == 18) {
                    used.add("invokedynamic");
                }
            }
            return used;
        }
    }
}
