import java.io.IOException;
import java.lang.reflect.Method;
import java.lang.reflect.Modifier;
import java.util.Arrays;
import java.util.HashMap;
import java.util.List;
import java.util.Map;
import java.util.Set;
import java.util.TreeSet;
import java.util.regex.Matcher;
import java.util.regex.Pattern;
import java.util.stream.Stream;

/** The rules of ../shared/LANGUAGE.md that show in what stands inside a method. */
public final class SourceRulesTest {
    private static final int MAX_LINES = 60;
    private static final int MAX_DEPTH = 8;
    private static final Pattern LOOP = Pattern.compile("\\b(for|while|do)\\b[^{]*\\{");
    private static final String COUNTING_LOOP =
            "for \\(int (\\w+) = [^;]+; \\1 (<|<=|>|>=) [^;&|]+( && [^;|]+)?; \\1(\\+\\+|--)\\) \\{";
    private static final Pattern USE_OF_INDEX = Pattern.compile("(?<!new )\\b([\\w.]+)\\[(.+?)( - 1)?\\]");
    private static final Pattern CALL = Pattern.compile("\\b(\\w+)\\(");

    private final Report report = new Report("SourceRulesTest");
    private final List<Source.Body> methods;
    private final Map<String, Set<String>> called = new HashMap<>();

    private SourceRulesTest(List<Source.Body> methods) {
        this.methods = methods;
    }

    public static void main(String[] arguments) throws IOException {
        SourceRulesTest test = new SourceRulesTest(Source.methods());
        test.allMethodsAreFound();
        for (Source.Body method : test.methods) {
            test.indexesAreLookedAt(method);
            test.loopsCount(method);
            test.methodIsShort(method);
        }
        test.callsAreNotDeep();
        test.report.end();
    }

    private void allMethodsAreFound() {
        Stream<Class<?>> inside = Arrays.stream(ApartSteps.class.getDeclaredClasses());
        List<String> declared = Stream.concat(Stream.of(ApartSteps.class), inside)
                .flatMap(type -> Arrays.stream(type.getDeclaredMethods())).filter(method -> !method.isSynthetic())
                .map(Method::getName).toList();
        List<String> found = methods.stream().map(Source.Body::name).toList();
        report.due("the methods found", found.stream().sorted().toList(),
                Stream.concat(declared.stream(), Stream.of("ApartSteps")).sorted().toList());
    }

    private void indexesAreLookedAt(Source.Body method) {
        Matcher use = USE_OF_INDEX.matcher(method.text());
        while (use.find()) {
            String before = method.text().substring(0, use.start());
            String index = "(?<!\\w)" + Pattern.quote(use.group(2));
            String length = Pattern.quote(use.group(1) + ".length");
            String least = use.group(3) == null ? "[01]" : "1";
            boolean above = has(before, index + " (=|<|>=) " + least + "\\b");
            boolean below = has(before, index + " (<|>|>=) " + length);
            report.due("rule 7: " + method.name() + " looks at the index of " + use.group(), above && below, true);
        }
    }

    private static boolean has(String text, String pattern) {
        return Pattern.compile(pattern).matcher(text).find();
    }

    private void loopsCount(Source.Body method) {
        Matcher loop = LOOP.matcher(method.text());
        while (loop.find()) {
            boolean counts = loop.group().matches(COUNTING_LOOP);
            report.due("rule 9: " + method.name() + " counts in " + loop.group(), counts, true);
        }
    }

    private void methodIsShort(Source.Body method) {
        boolean isShort = method.text().lines().count() <= MAX_LINES;
        report.due("rule 11: " + method.name() + " is short", isShort, true);
    }

    /** Methods of one name are taken as one, so a depth may be told too great, but never too small. */
    private void callsAreNotDeep() {
        for (Source.Body method : methods) {
            called.computeIfAbsent(method.name(), name -> new TreeSet<>()).addAll(callsIn(method.text()));
        }
        for (Method method : ApartSteps.class.getDeclaredMethods()) {
            if (Modifier.isPublic(method.getModifiers())) {
                int depth = depthOf(method.getName(), 1);
                String what = "rule 11: the calls in " + method.getName() + ", " + depth + " deep, are too deep";
                report.due(what, depth > MAX_DEPTH, false);
            }
        }
    }

    private Set<String> callsIn(String text) {
        Set<String> names = new TreeSet<>();
        Matcher call = CALL.matcher(text);
        while (call.find()) {
            if (methods.stream().anyMatch(method -> method.name().equals(call.group(1)))) {
                names.add(call.group(1));
            }
        }
        return names;
    }

    /** Recursion, which the class has none of, shows as a depth above the limit. */
    private int depthOf(String name, int ahead) {
        int deepest = ahead;
        if (ahead <= MAX_DEPTH) {
            for (String next : called.getOrDefault(name, Set.of())) {
                deepest = Math.max(deepest, depthOf(next, ahead + 1));
            }
        }
        return deepest;
    }
}
