import java.util.ArrayList;
import java.util.List;

/** The boundary cases of the promises 1, 44 and 45, and of what holds for several promises. */
public final class LookBoundsTest extends Bounds {
    private ApartSteps looked;

    public static void main(String[] arguments) throws ReflectiveOperationException {
        run(LookBoundsTest.class);
    }

    // ---- promise 1: a new object

    @Says(promise = 1, it = "Creates stalls with 0, an empty stream, no snapshot, an empty buffer.")
    void aNewObjectIsEmpty() {
        for (int stall = 0; stall < 6; stall++) {
            due(0, "numberOf", stall);
        }
        due(0, "total");
        due(0, "streamLength");
        due(INDEX, "digitAt", 0);
        due(STATE, "restore");
        due(STATE, "undo");
        due(0, "savedStates");
        due(false, "hasStopped");
        due(0, "firstError");
        due(0, "clearBuffer");
    }

    @Says(promise = 1, it = "Creates stalls with 0, an empty stream, no snapshot, an empty buffer.")
    void objectsHaveNothingInCommon() {
        busy();
        String digest = ask("digest");
        ApartSteps other = new ApartSteps();
        same("total of another object", other.total(), 0);
        same("streamLength of another object", other.streamLength(), 0);
        same("clearBuffer of another object", other.clearBuffer(), 0);
        same("restore of another object", Face.ask(other, "restore"), STATE);
        other.set(0, 6764);
        other.send(1);
        other.append('0');
        other.keep();
        due(digest, "digest");
    }

    @Says(promise = 1, it = "An object is used for at most 512 calls after it has been made;")
    void the512thCallIsAnsweredAsTheFirst() {
        for (int i = 1; i < 512; i++) {
            ask("set", 0, i);
        }
        due(511, "numberOf", 0);
        begin();
        for (int i = 0; i < 255; i++) {
            due(1, "append", 's');
            due(1, "clearBuffer");
        }
        due(0, "firstError");
        due(STATE, "restore");
        begin();
        ask("keep");
        for (int i = 0; i < 255; i++) {
            due(0, "restore");
            ask("set", 1, i);
        }
        due(254, "total");
    }

    @Says(promise = 45, it = "An object is used for at most 512 calls after it has been made;")
    void the512thDigestIsAsTheFirst() {
        String first = ask("digest");
        for (int i = 2; i < 512; i++) {
            ask("digest");
        }
        due(first, "digest");
    }

    // ---- promise 44: sparseShare

    @Says(promise = 44, it = "Returns how sparse stalls are.")
    void sparseShareIsOfAllStalls() {
        works("0=3;1=100;5=4181");
        due(5.0 / 18.0, "sparseShare");
    }

    @Says(promise = 44, it = "Returns the steps of all stalls, as a double, divided by the steps of the full sets of their numbers; 1.0 if all are 0.")
    void sparseShareFrom1Over9To1() {
        due(1.0, "sparseShare");
        works("2=4181");
        due(1.0 / 9.0, "sparseShare");
        works("2=1");
        due(1.0, "sparseShare");
        works("0=4181;1=4181;2=4181;3=4181;4=4181;5=4181");
        due(6.0 / 54.0, "sparseShare");
        works("0=6764;1=6764;2=6764;3=6764;4=6764;5=6764");
        due(1.0, "sparseShare");
    }

    @Says(promise = 44, it = "1.0 if all are 0")
    void sparseShareOfNothingIs1() {
        due(1.0, "sparseShare");
        works("0=3");
        due(0.5, "sparseShare");
        works("0=0");
        due(1.0, "sparseShare");
    }

    @Says(promise = 44, it = "All numbers are integers, but for a share.")
    void sparseShareIsNoInteger() {
        works("0=3;1=2");
        due(2.0 / 3.0, "sparseShare");
    }

    // ---- promise 45: digest

    private long number(String name, int... arguments) {
        return Long.parseLong(Face.ask(looked, name, arguments));
    }

    private int count(String name, int... arguments) {
        return (int) number(name, arguments);
    }

    /** The values of the document's list, in order, by the other methods. */
    private List<Long> values(String text) {
        List<Long> values = new ArrayList<>();
        values.add(number("total"));
        values.add(number("richest"));
        values.add(number("savedStates"));
        for (int stall = 0; stall < 6; stall++) {
            addStall(values, stall, count("numberOf", stall));
        }
        for (int stall = 0; stall < 6; stall++) {
            int next = stall == 5 ? 0 : stall + 1;
            values.add(number("sumByCarries", stall, next));
            values.add(number("carries", stall, next));
        }
        values.add(number("sayByCounting", count("numberOf", 0)));
        addStream(values);
        values.add(looked.hasStopped() ? 1L : 0L);
        if (looked.hasStopped()) {
            values.add(number("stoppedPart"));
            values.add(number("whyStopped"));
        }
        values.add(Double.doubleToLongBits(looked.sparseShare()));
        values.add((long) text.length());
        text.chars().forEach(code -> values.add((long) code));
        return values;
    }

    private void addStall(List<Long> values, int stall, int number) {
        values.add((long) number);
        for (String name : new String[] {"say", "fullSet", "ways", "waysByGaps"}) {
            values.add(number(name, number));
        }
        values.add(number("stepsOf", stall));
        for (int tribe = 0; tribe < 3; tribe++) {
            int length = count("spokenLength", tribe, number);
            values.add((long) length);
            for (int place = 0; place < length; place++) {
                values.add(number("spokenAt", tribe, number, place));
            }
        }
    }

    private void addStream(List<Long> values) {
        int length = count("streamLength");
        values.add((long) length);
        for (int place = 0; place < length; place++) {
            values.add(number("digitAt", place));
        }
        int read = count("readNumbers");
        values.add((long) read);
        for (int place = 0; place < read; place++) {
            values.add(number("readAt", place));
        }
        values.add(number("errors"));
        values.add(number("looseDigits"));
        if (length > 0) {
            values.add(number("readIfTurned", 0));
        }
    }

    /** The digest is as the values of the list tell; the buffer has this text. */
    private void dueDigest(String text) {
        looked = twin();
        long hash = 4549;
        for (long value : values(text)) {
            hash = 31 * hash + value;
        }
        due(hash, "digest");
    }

    @Says(promise = 45, it = "Computes a hash of the whole state. The hash starts at 4549.")
    void theDigestOfANewObject() {
        dueDigest("");
        same("two new objects", new ApartSteps().digest(), new ApartSteps().digest());
    }

    @Says(promise = 45, it = "For each value v of the following list, in order, the hash becomes 31 * hash + v, in long arithmetic with overflow.")
    void theDigestOfABusyObject() {
        busy();
        dueDigest("0=12;3");
    }

    @Says(promise = 45, it = "(A boolean is 1 for true, 0 for false.)")
    void theDigestWithAStopAndWithout() {
        works("0=1;1=2");
        dueDigest("");
        works("0=1;f0");
        dueDigest("");
        ask("undo");
        dueDigest("");
    }

    @Says(promise = 45, it = "The values are: total, richest and savedStates;")
    void theDigestWith0To5SavedStates() {
        for (int saved = 0; saved <= 6; saved++) {
            dueDigest("");
            ask("set", 5, 6764);
        }
        works("0=6764;1=6764;2=6764;3=6764;4=6764;5=6764");
        due(0, "richest");
        begin();
        works("0=6764;1=6764;2=6764;3=6764;4=6764;5=6764");
        dueDigest("");
    }

    @Says(promise = 45, it = "for each stall numberOf, say, fullSet, ways and waysByGaps of this number, stepsOf, and for each tribe spokenLength and each spokenAt of it;")
    void theDigestOfTheFirstAndTheLastNumbers() {
        for (int stall = 0; stall < 6; stall++) {
            for (int number : new int[] {1, 3, 4180, 4181}) {
                begin();
                ask("set", stall, number);
                dueDigest("");
            }
        }
    }

    @Says(promise = 45, it = "for each stall and the next one (behind the stall 5 the stall 0) sumByCarries and carries;")
    void theDigestGoesRoundFromTheStall5To0() {
        works("0=4182;5=6764");
        due(19, "carries", 5, 0);
        dueDigest("");
        begin();
        works("0=1;1=1;2=2;3=3;4=5;5=6764");
        dueDigest("");
    }

    @Says(promise = 45, it = "sayByCounting of the number of the stall 0;")
    void theDigestCountsUpTheStall0() {
        works("0=6764;1=5");
        dueDigest("");
        begin();
        works("0=0;1=5");
        dueDigest("");
    }

    @Says(promise = 45, it = "streamLength, each digitAt, readNumbers, each readAt, errors, looseDigits, and, if the stream is not empty, readIfTurned of the place 0;")
    void theDigestOfStreamsOf0To64Digits() {
        for (String digits : new String[] {"10", "01", times("1", 64), times("0", 64), times("10", 31) + "11",
                times("0", 18) + "11" + times("1", 44), "0111"}) {
            stream(digits);
            dueDigest("");
        }
        begin();
        ask("send", 2);
        ask("cut", 2);
        due(1, "streamLength");
        dueDigest("");
        ask("cut", 1);
        dueDigest("");
    }

    @Says(promise = 45, it = "hasStopped, and, if that is true, stoppedPart and whyStopped;")
    void theDigestWithEachReason() {
        for (String text : new String[] {"f0", "0=1;1-0", "0=4181;0^", "s6764;s6764;s6764;s34", "0=6764;0+0"}) {
            begin();
            works(text);
            due(true, "hasStopped");
            dueDigest("");
        }
    }

    @Says(promise = 45, it = "the bits of sparseShare (as Double.doubleToLongBits);")
    void theDigestOfEachShareOfOneStall() {
        boolean[] seen = new boolean[1000];
        for (int number = 0; number <= 6764; number++) {
            ApartSteps probe = new ApartSteps();
            probe.set(0, number);
            int share = probe.stepsOf(0) * 30 + Integer.bitCount(probe.fullSet(number));
            if (!seen[share]) {
                seen[share] = true;
                begin();
                ask("set", 1, number);
                dueDigest("");
            }
        }
    }

    @Says(promise = 45, it = "the bits of sparseShare (as Double.doubleToLongBits);")
    void theDigestOfSharesOfSixStalls() {
        int[] numbers = {3, 8, 55, 377, 2584, 4181, 100, 1000, 6764, 5, 34};
        for (int i = 0; i < numbers.length; i++) {
            for (int j = 0; j < numbers.length; j++) {
                begin();
                works("0=" + numbers[i] + ";1=" + numbers[j] + ";2=" + numbers[(i + j) % numbers.length]
                        + ";3=" + numbers[i * j % numbers.length] + ";4=" + numbers[j] + ";5=" + (i * 601 + j));
                dueDigest("");
            }
        }
    }

    @Says(promise = 45, it = "the length of the buffer and each of its character codes.")
    void theDigestOfBuffersOf0To60Characters() {
        dueDigest("");
        type("!");
        dueDigest("!");
        typeNew("~");
        dueDigest("~");
        typeNew(times("!~", 30));
        dueDigest(times("!~", 30));
        ask("clearBuffer");
        dueDigest("");
    }

    @Says(promise = 45, it = "Returns the hash.")
    void theDigestChangesNothing() {
        busy();
        unchanged("digest");
        String first = ask("digest");
        due(first, "digest");
    }

    // ---- what holds for several promises

    @Says(promise = 21, it = "looks at numbers; nothing is changed.")
    void looksAtNumbersChangeNothing() {
        busy();
        unchanged("worthOf", 17);
        unchanged("worthOfSet", 262143);
        for (String name : new String[] {"say", "sayByCounting", "fullSet", "ways", "waysByGaps"}) {
            unchanged(name, 6764);
        }
        unchanged("spokenLength", 2, 6764);
        unchanged("spokenAt", 2, 6764, 8);
    }

    @Says(promise = 42, it = "what would be; nothing is changed.")
    void looksAtWhatWouldBeChangeNothing() {
        busy();
        for (int place = 0; place < BUSY_STREAM.length(); place++) {
            unchanged("readIfTurned", place);
        }
        unchanged("codeLength", 6764);
        unchanged("sparseShare");
        unchanged("digest");
    }

    @Says(promise = 34, it = "looks at stalls.")
    void looksAtStallsChangeNothing() {
        busy();
        for (String name : new String[] {"total", "richest"}) {
            unchanged(name);
        }
        for (int stall = 0; stall < 6; stall++) {
            unchanged("numberOf", stall);
            unchanged("stepsOf", stall);
            unchanged("sumByCarries", stall, 2);
            unchanged("carries", 2, stall);
        }
    }

    @Says(promise = 38, it = "looks at the stream.")
    void looksAtTheStreamChangeNothing() {
        busy();
        for (String name : new String[] {"streamLength", "readNumbers", "errors", "looseDigits"}) {
            unchanged(name);
        }
        unchanged("digitAt", 0);
        unchanged("readAt", 0);
    }

    @Says(promise = 14, it = "Returns whether the latest call of work()")
    void looksAtTheStopChangeNothing() {
        busy();
        for (String name : new String[] {"firstError", "hasStopped", "stoppedPart", "whyStopped", "savedStates"}) {
            unchanged(name);
        }
    }

    /** Each call that can be refused, with arguments by which busy() refuses it. */
    @Says(promise = 1, it = "A call that throws an exception changes nothing.")
    void refusedCallsChangeNothing() {
        Object[][] refused = {
            {"set", INDEX, 6, 1}, {"set", ARGUMENT, 0, 6765}, {"add", INDEX, 0, 6}, {"add", STATE, 0, 2},
            {"takeAway", INDEX, -1, 0}, {"takeAway", STATE, 0, 2}, {"raise", INDEX, 6}, {"raise", STATE, 4},
            {"pay", INDEX, 0, 6, 1}, {"pay", ARGUMENT, 1, 1, 1}, {"pay", ARGUMENT, 0, 1, 0}, {"pay", STATE, 0, 1, 101},
            {"pay", STATE, 0, 2, 1}, {"send", ARGUMENT, 0}, {"turn", INDEX, 28}, {"cut", ARGUMENT, 65},
            {"cut", STATE, 29}, {"append", ARGUMENT, 127}, {"work", ARGUMENT}, {"worthOf", INDEX, 18},
            {"worthOfSet", ARGUMENT, 262144}, {"say", ARGUMENT, 6765}, {"sayByCounting", ARGUMENT, 6765},
            {"fullSet", ARGUMENT, 6765}, {"ways", ARGUMENT, 6765}, {"waysByGaps", ARGUMENT, 6765},
            {"spokenLength", INDEX, 3, 0}, {"spokenLength", ARGUMENT, 0, -1}, {"spokenAt", INDEX, 3, 1, 0},
            {"spokenAt", ARGUMENT, 0, 1, 1}, {"numberOf", INDEX, 6}, {"stepsOf", INDEX, 6}, {"sumByCarries", INDEX, 6, 0},
            {"carries", INDEX, 0, 6}, {"digitAt", INDEX, 28}, {"readAt", INDEX, 1}, {"readIfTurned", INDEX, 28},
            {"codeLength", ARGUMENT, 0}
        };
        busy();
        for (Object[] call : refused) {
            int[] arguments = new int[call.length - 2];
            for (int i = 0; i < arguments.length; i++) {
                arguments[i] = (Integer) call[i + 2];
            }
            refused((String) call[1], (String) call[0], arguments);
        }
    }
}
