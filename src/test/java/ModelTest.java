import java.util.Random;

/** Compares the program with the model: each number, many pairs, streams, texts and random runs. */
public final class ModelTest {
    private static final String[] CHANGES = {
        "set", "add", "takeAway", "raise", "pay", "send", "turn", "cut",
        "append", "clearBuffer", "work", "undo", "keep", "restore"
    };
    private static final int[] CHANGE_ARGUMENTS = {2, 2, 2, 1, 3, 1, 1, 1, 1, 0, 0, 0, 0, 0};
    private static final String[] LOOKS = {
        "firstError", "hasStopped", "stoppedPart", "whyStopped", "savedStates", "worthOf", "worthOfSet",
        "say", "fullSet", "ways", "waysByGaps", "spokenLength", "spokenAt", "numberOf",
        "stepsOf", "total", "richest", "sumByCarries", "carries", "streamLength", "digitAt",
        "readNumbers", "readAt", "errors", "looseDigits", "readIfTurned", "codeLength", "sparseShare", "digest"
    };
    private static final int[] LOOK_ARGUMENTS = {
        0, 0, 0, 0, 0, 1, 1, 1, 1, 1, 1, 2, 3, 1, 1, 0, 0, 2, 2, 0, 1, 0, 1, 0, 0, 1, 1, 0, 0
    };
    private static final int[] EDGES = {
        Integer.MIN_VALUE, -1, 0, 1, 2, 3, 5, 6, 17, 18, 32, 33, 63, 64, 65, 126, 127,
        4180, 4181, 6763, 6764, 6765, 262143, 262144, Integer.MAX_VALUE
    };

    private final Report report = new Report("ModelTest");
    private final Random random;
    private ApartSteps program;
    private Model model;
    private StringBuilder run;

    private ModelTest(long seed) {
        random = new Random(seed);
    }

    public static void main(String[] arguments) {
        ModelTest test = new ModelTest(20261119L);
        test.eachNumber();
        test.pairs();
        test.edges();
        test.randomRuns(400);
        test.streamRuns(300);
        test.textRuns(400);
        test.report.end();
    }

    private void begin() {
        program = new ApartSteps();
        model = new Model();
        run = new StringBuilder();
    }

    private void same(String name, int... arguments) {
        String due = Face.ask(model, name, arguments);
        String got = Face.ask(program, name, arguments);
        run.append(' ').append(Face.told(name, arguments));
        report.due(got.equals(due) ? "" : run.toString(), got, due);
    }

    private void eachNumber() {
        for (int number = -1; number <= Model.MAX + 1; number++) {
            begin();
            for (String name : new String[] {"say", "fullSet", "ways", "waysByGaps", "codeLength"}) {
                same(name, number);
            }
            if (number % 5 == 0 || number > 6700) {
                same("sayByCounting", number);
            }
            for (int tribe = -1; tribe <= 3; tribe++) {
                same("spokenLength", tribe, number);
                for (int place = -1; place <= 10; place++) {
                    same("spokenAt", tribe, number, place);
                }
            }
            same("set", 3, number);
            same("stepsOf", 3);
            same("sparseShare");
            same("raise", 3);
            same("numberOf", 3);
            same("send", number);
            same("readAt", 0);
        }
        begin();
        for (int mark = 0; mark < 1 << 18; mark += 37) {
            same("worthOfSet", mark);
        }
    }

    private void pairs() {
        for (int i = 0; i < 20000; i++) {
            begin();
            same("set", 0, number());
            same("set", 1, number());
            same("sumByCarries", 0, 1);
            same("carries", 1, 0);
            same("sumByCarries", 1, 1);
            same("carries", 0, 0);
            same("add", 0, 1);
            same("numberOf", 0);
        }
    }

    /** Each call with each of the edges as arguments, on a new object and on one with some state. */
    private void edges() {
        for (int i = 0; i < CHANGES.length + LOOKS.length; i++) {
            boolean look = i >= CHANGES.length;
            String name = look ? LOOKS[i - CHANGES.length] : CHANGES[i];
            int count = look ? LOOK_ARGUMENTS[i - CHANGES.length] : CHANGE_ARGUMENTS[i];
            for (int first : EDGES) {
                for (int second : count > 1 ? EDGES : new int[] {0}) {
                    for (int third : count > 2 ? EDGES : new int[] {0}) {
                        edge(name, count, first, second, third);
                    }
                }
            }
        }
    }

    private void edge(String name, int count, int first, int second, int third) {
        int[] arguments = java.util.Arrays.copyOf(new int[] {first, second, third}, count);
        begin();
        same(name, arguments);
        same("digest");
        begin();
        same("set", 0, 6764);
        same("set", 1, 1);
        same("set", 2, 4180);
        same("send", 6764);
        same("send", 6764);
        same("turn", 17);
        same(name, arguments);
        same("digest");
    }

    private void randomRuns(int runs) {
        for (int i = 0; i < runs; i++) {
            begin();
            for (int call = 0; call < 512; call++) {
                if (random.nextInt(8) == 0) {
                    appendAll(someText());
                }
                if (random.nextInt(3) == 0) {
                    randomCall(LOOKS, LOOK_ARGUMENTS);
                } else {
                    randomCall(CHANGES, CHANGE_ARGUMENTS);
                    same("digest");
                }
            }
        }
    }

    private void randomCall(String[] names, int[] counts) {
        int i = random.nextInt(names.length);
        int[] arguments = new int[counts[i]];
        for (int j = 0; j < arguments.length; j++) {
            arguments[j] = argument();
        }
        if (names[i].equals("append")) {
            arguments[0] = "0123456789=+-^sf;".charAt(random.nextInt(17));
        }
        same(names[i], arguments);
    }

    private int number() {
        int bound = 1 << random.nextInt(14);
        return Math.min(random.nextInt(bound), Model.MAX);
    }

    private int argument() {
        switch (random.nextInt(12)) {
            case 0:
                return EDGES[random.nextInt(EDGES.length)];
            case 1:
            case 2:
                return number();
            case 3:
                return random.nextInt(64);
            default:
                return random.nextInt(6);
        }
    }

    private void appendAll(String text) {
        for (char c : text.toCharArray()) {
            same("append", c);
        }
    }

    private void streamRuns(int runs) {
        for (int i = 0; i < runs; i++) {
            begin();
            for (int call = 0; call < 40; call++) {
                int kind = random.nextInt(10);
                if (kind < 6) {
                    same("send", Math.max(1, number()));
                } else if (kind < 9) {
                    same("turn", random.nextInt(64));
                } else {
                    same("cut", 1 + random.nextInt(64));
                }
                lookAtStream();
            }
        }
    }

    private void lookAtStream() {
        for (String name : new String[] {"streamLength", "readNumbers", "errors", "looseDigits", "digest"}) {
            same(name);
        }
        for (int place = 0; place <= 64; place++) {
            same("readIfTurned", place);
            same("digitAt", place);
            if (place < 34) {
                same("readAt", place);
            }
        }
    }

    private void textRuns(int runs) {
        for (int i = 0; i < runs; i++) {
            begin();
            for (int text = 0; text < 8; text++) {
                StringBuilder told = new StringBuilder(someText());
                for (int wrong = random.nextInt(3); wrong > 0; wrong--) {
                    int at = random.nextInt(told.length());
                    told.setCharAt(at, "0123456789=+-^sf;x~!:/".charAt(random.nextInt(22)));
                }
                appendAll(told.toString());
                for (String name : new String[] {"firstError", "work", "hasStopped", "stoppedPart", "whyStopped",
                        "digest", "undo", "digest", "clearBuffer"}) {
                    same(name);
                }
            }
        }
    }

    private String someText() {
        StringBuilder text = new StringBuilder(somePart());
        while (random.nextInt(4) > 0) {
            text.append(';').append(somePart());
        }
        return text.toString();
    }

    private String somePart() {
        int stall = random.nextInt(6);
        int other = random.nextInt(6);
        switch (random.nextInt(8)) {
            case 0:
            case 1:
                return stall + "=" + number();
            case 2:
                return stall + "+" + other;
            case 3:
                return stall + "-" + other;
            case 4:
            case 5:
                return stall + "^";
            case 6:
                return "s" + Math.max(1, number());
            default:
                return "f" + random.nextInt(20);
        }
    }
}
