import java.lang.reflect.InvocationTargetException;
import java.lang.reflect.Method;
import java.util.ArrayList;
import java.util.Arrays;
import java.util.Comparator;
import java.util.List;

/** Runs the methods marked with Says of a class that extends it, each one with an object of its own. */
abstract class Bounds {
    static final String INDEX = "throws.IndexOutOfBoundsException";
    static final String ARGUMENT = "throws.IllegalArgumentException";
    static final String STATE = "throws.IllegalStateException";
    /** The stream of busy(): an error, the number 4, and loose digits. */
    static final String BUSY_STREAM = "0101010101010101010" + "11" + "1011" + "010";

    /** What an object answers behind its 512th call is free; some are left for what everythingBehind() asks. */
    private static final int MAX_CALLS = 512;
    private static final int CALLS_LEFT = 190;

    private final List<Call> calls = new ArrayList<>();
    private ApartSteps x = new ApartSteps();
    private Report report;
    private String where;

    private record Call(String name, int[] arguments) {
        Object on(ApartSteps target) {
            return Face.ask(target, name, arguments);
        }

        @Override
        public String toString() {
            return Face.told(name, arguments);
        }
    }

    static void run(Class<? extends Bounds> type) throws ReflectiveOperationException {
        Report report = new Report(type.getSimpleName());
        for (Method test : testsOf(type)) {
            Says says = test.getAnnotation(Says.class);
            Bounds bounds = type.getDeclaredConstructor().newInstance();
            bounds.report = report;
            bounds.where = "promise " + says.promise() + ", \"" + says.it() + "\", " + test.getName() + ": ";
            try {
                test.setAccessible(true);
                test.invoke(bounds);
            } catch (InvocationTargetException e) {
                report.due(bounds.where, e.getCause(), "no exception");
            }
        }
        report.end();
    }

    static List<Method> testsOf(Class<? extends Bounds> type) {
        return Arrays.stream(type.getDeclaredMethods()).filter(m -> m.isAnnotationPresent(Says.class))
                .sorted(Comparator.comparing(Method::getName)).toList();
    }

    /** From now on, a new object. */
    void begin() {
        calls.clear();
        x = new ApartSteps();
    }

    String ask(String name, int... arguments) {
        Call call = new Call(name, arguments);
        calls.add(call);
        if (calls.size() > MAX_CALLS) {
            report.due(where + "the calls of one object", calls.size(), MAX_CALLS);
        }
        return String.valueOf(call.on(x));
    }

    void due(Object due, String name, int... arguments) {
        report.due(where + Face.told(name, arguments), ask(name, arguments), due);
    }

    void same(String what, Object got, Object due) {
        report.due(where + what, got, due);
    }

    /** The call is answered by this exception, and all is as if it had not been made. */
    void refused(String exception, String name, int... arguments) {
        unchanged(name, arguments);
        due(exception, name, arguments);
    }

    void refusedByNewAndBusy(String exception, String name, int... arguments) {
        begin();
        refused(exception, name, arguments);
        begin();
        busy();
        refused(exception, name, arguments);
    }

    void unchanged(String name, int... arguments) {
        report.due(where + "the state behind " + Face.told(name, arguments),
                everythingBehind(new Call(name, arguments)), everythingBehind());
    }

    /** The call saves one state, and undo brings all back; fewer than 5 states have to be saved ahead of it. */
    void undoable(Object due, String name, int... arguments) {
        Call call = new Call(name, arguments);
        report.due(where + "the state behind " + call + " and undo",
                everythingBehind(call, new Call("undo", new int[0])), everythingBehind());
        int saved = Integer.parseInt(ask("savedStates"));
        due(due, name, arguments);
        due(saved + 1, "savedStates");
    }

    /** All that a caller can see, also by undo and restore, after the calls until now and these. */
    private String everythingBehind(Call... more) {
        StringBuilder told = new StringBuilder();
        ApartSteps undone = replayed(more);
        tellSimpleLooks(told, undone);
        told.append(Face.ask(undone, "firstError"));
        tellSimpleLooks(told, undone);
        told.append(Face.ask(undone, "digest"));
        String left = "";
        for (int undos = 0; undos < 7 && !left.equals(STATE); undos++) {
            left = Face.ask(undone, "undo");
            told.append(' ').append(left).append(' ').append(Face.ask(undone, "digest"));
        }
        ApartSteps restored = replayed(more);
        told.append(' ').append(Face.ask(restored, "restore")).append(' ').append(Face.ask(restored, "digest"));
        return told.toString();
    }

    /** The looks that the others are made of come first, so that a look that changes something is found out. */
    private static void tellSimpleLooks(StringBuilder told, ApartSteps target) {
        for (int stall = 0; stall < 6; stall++) {
            told.append(target.numberOf(stall)).append(' ');
        }
        int length = target.streamLength();
        for (int place = 0; place < length; place++) {
            told.append(target.digitAt(place));
        }
        told.append(' ').append(target.savedStates()).append(' ').append(target.hasStopped()).append(' ');
        told.append(Face.ask(target, "stoppedPart")).append(' ').append(Face.ask(target, "whyStopped")).append(' ');
    }

    /** Another object behind the same calls. */
    ApartSteps twin() {
        return replayed();
    }

    private ApartSteps replayed(Call... more) {
        if (calls.size() > MAX_CALLS - CALLS_LEFT) {
            report.due(where + "the calls that are made again", calls.size(), MAX_CALLS - CALLS_LEFT);
        }
        ApartSteps target = new ApartSteps();
        for (Call call : calls) {
            call.on(target);
        }
        for (Call call : more) {
            call.on(target);
        }
        return target;
    }

    /** The first values outside of least to most, and the outermost ones. */
    static int[] outside(int least, int most) {
        return new int[] {least - 1, most + 1, Integer.MIN_VALUE, Integer.MAX_VALUE};
    }

    void type(String text) {
        for (char c : text.toCharArray()) {
            ask("append", c);
        }
    }

    void typeNew(String text) {
        ask("clearBuffer");
        type(text);
    }

    /** Works as one text; it saves one state. */
    void works(String text) {
        typeNew(text);
        ask("work");
    }

    /** A new object with these digits in its stream, which is 2 digits or longer. */
    void stream(String digits) {
        begin();
        StringBuilder codes = new StringBuilder();
        int left = digits.length();
        for (; left > 21; left -= 19) {
            codes.append("s6764;");
        }
        for (; left > 3; left -= 2) {
            codes.append("s1;");
        }
        works(codes.append(left == 3 ? "s2" : "s1").toString());
        for (int place = 0; place < digits.length(); place++) {
            if (!ask("digitAt", place).equals(digits.substring(place, place + 1))) {
                ask("turn", place);
            }
        }
        same("the stream", streamNow(), digits);
    }

    String streamNow() {
        StringBuilder digits = new StringBuilder();
        int length = Integer.parseInt(ask("streamLength"));
        for (int place = 0; place < length; place++) {
            digits.append(ask("digitAt", place));
        }
        return digits.toString();
    }

    /** Stalls, a stream, a snapshot of an earlier state, 3 saved states, a stop, and a buffer. */
    void busy() {
        works("0=100;1=54;2=6764;4=4181;5=1");
        ask("keep");
        works("s6764;f18;s1;s4;s2;f27;3-0");
        ask("set", 3, 7);
        type("0=12;3");
    }

    /** As busy(), but all saved states are dropped by undo. */
    void busyWithoutSavedStates() {
        busy();
        for (int i = 0; i < 5; i++) {
            ask("set", 5, i);
        }
        for (int i = 0; i < 5; i++) {
            ask("undo");
        }
    }

    static String times(String text, int count) {
        return text.repeat(count);
    }
}
