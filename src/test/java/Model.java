import java.util.ArrayList;
import java.util.Arrays;
import java.util.HashSet;
import java.util.List;
import java.util.Set;

/** What the document says, told as literally and as differently from the program as it goes. */
final class Model {
    static final int MAX = 6764;
    private static final int[] WORTH = worths();
    private static final int[] SAID = new int[MAX + 1];
    private static final int[] FULL = new int[MAX + 1];
    private static final int[] WAYS = new int[MAX + 1];
    private static final int[] COUNTED = new int[MAX + 1];
    private static final Set<String> PARTS = new HashSet<>();
    private static final Set<String> BEGINNINGS = new HashSet<>();

    static {
        tellAllSets();
        countUp();
        tellAllParts();
    }

    private int[] stalls = new int[6];
    private String stream = "";
    private int stopPart = -1;
    private int stopReason;
    private String text = "";
    private final List<Model> saved = new ArrayList<>();
    private Model snapshot;

    private static int[] worths() {
        int[] worths = new int[22];
        worths[0] = 1;
        worths[1] = 2;
        for (int i = 2; i < 22; i++) {
            worths[i] = worths[i - 1] + worths[i - 2];
        }
        return worths;
    }

    private static void tellAllSets() {
        Arrays.fill(SAID, -1);
        Arrays.fill(FULL, -1);
        for (int mark = 0; mark < 1 << 18; mark++) {
            int worth = worthOf(mark, 18);
            if (worth > MAX) {
                continue;
            }
            WAYS[worth]++;
            String steps = Integer.toBinaryString(mark);
            if (!steps.contains("11")) {
                once(SAID, worth, mark);
            }
            if (mark == 0 || !steps.contains("00")) {
                once(FULL, worth, mark);
            }
        }
    }

    private static void once(int[] row, int at, int mark) {
        if (row[at] >= 0) {
            throw new IllegalStateException("two sets of " + at);
        }
        row[at] = mark;
    }

    private static void countUp() {
        for (int n = 1; n <= MAX; n++) {
            COUNTED[n] = carried(COUNTED[n - 1], 1)[0];
        }
    }

    private static void tellAllParts() {
        for (int stall = 0; stall < 6; stall++) {
            for (int n = 0; n <= MAX; n++) {
                tellPart(stall + "=" + n);
            }
            for (int other = 0; other < 6; other++) {
                tellPart(stall + "+" + other);
                tellPart(stall + "-" + other);
            }
            tellPart(stall + "^");
        }
        for (int n = 1; n <= MAX; n++) {
            tellPart("s" + n);
        }
        for (int place = 0; place < 64; place++) {
            tellPart("f" + place);
        }
    }

    private static void tellPart(String part) {
        PARTS.add(part);
        for (int length = 0; length <= part.length(); length++) {
            BEGINNINGS.add(part.substring(0, length));
        }
    }

    private static int worthOf(int mark, int steps) {
        int sum = 0;
        for (int step = 0; step < steps; step++) {
            sum += (mark >> step) % 2 * WORTH[step];
        }
        return sum;
    }

    /** The mark and the number of carries. */
    static int[] carried(int mark, int other) {
        int[] counts = new int[24];
        for (int step = 0; step < 22; step++) {
            counts[step] = (mark >> step) % 2 + (other >> step) % 2;
        }
        int carries = 0;
        boolean again = true;
        while (again) {
            again = false;
            for (int step = 19; step >= 0 && !again; step--) {
                if (counts[step] > 0 && counts[step + 1] > 0) {
                    counts[step]--;
                    counts[step + 1]--;
                    counts[step + 2]++;
                    again = true;
                } else if (counts[step] >= 2) {
                    counts[step] -= 2;
                    counts[step + 1]++;
                    if (step == 1) {
                        counts[0]++;
                    }
                    if (step >= 2) {
                        counts[step - 2]++;
                    }
                    again = true;
                }
            }
            if (again) {
                carries++;
            }
        }
        int sum = 0;
        for (int step = 0; step < 24; step++) {
            if (counts[step] > 1) {
                throw new IllegalStateException("a step counts twice");
            }
            sum += counts[step] << step;
        }
        return new int[] {sum, carries};
    }

    // ---- the state

    private Model copy() {
        Model copy = new Model();
        copy.take(this);
        return copy;
    }

    private void take(Model from) {
        stalls = from.stalls.clone();
        stream = from.stream;
        stopPart = from.stopPart;
        stopReason = from.stopReason;
    }

    private void save() {
        saved.add(copy());
        if (saved.size() > 5) {
            saved.remove(0);
        }
    }

    private static void index(boolean good) {
        if (!good) {
            throw new IndexOutOfBoundsException();
        }
    }

    private static void argument(boolean good) {
        if (!good) {
            throw new IllegalArgumentException();
        }
    }

    private static void state(boolean good) {
        if (!good) {
            throw new IllegalStateException();
        }
    }

    private static boolean in(int least, int value, int most) {
        return least <= value && value <= most;
    }

    private static void stall(int stall) {
        index(in(0, stall, 5));
    }

    // ---- stalls

    int set(int stall, int number) {
        stall(stall);
        argument(in(0, number, MAX));
        save();
        int before = stalls[stall];
        stalls[stall] = number;
        return before;
    }

    int add(int stall, int other) {
        stall(stall);
        stall(other);
        state(stalls[stall] + stalls[other] <= MAX);
        save();
        int carries = carries(stall, other);
        stalls[stall] += stalls[other];
        return carries;
    }

    int takeAway(int stall, int other) {
        stall(stall);
        stall(other);
        state(stalls[stall] >= stalls[other]);
        save();
        return stalls[stall] -= stalls[other];
    }

    int raise(int stall) {
        stall(stall);
        state(SAID[stalls[stall]] < 1 << 17);
        save();
        return stalls[stall] = worthOf(SAID[stalls[stall]] * 2, 18);
    }

    int pay(int stall, int other, int number) {
        stall(stall);
        stall(other);
        argument(stall != other && in(1, number, MAX));
        state(stalls[stall] >= number && stalls[other] + number <= MAX);
        save();
        stalls[other] += number;
        return stalls[stall] -= number;
    }

    // ---- the stream

    private static String code(int number) {
        return new StringBuilder(Integer.toBinaryString(SAID[number])).reverse().append('1').toString();
    }

    int send(int number) {
        argument(in(1, number, MAX));
        state((stream + code(number)).length() <= 64);
        save();
        stream += code(number);
        return stream.length();
    }

    private String turned(int place) {
        char[] digits = stream.toCharArray();
        digits[place] = digits[place] == '0' ? '1' : '0';
        return new String(digits);
    }

    int turn(int place) {
        index(in(0, place, stream.length() - 1));
        save();
        stream = turned(place);
        return digitAt(place);
    }

    int cut(int digits) {
        argument(in(1, digits, 64));
        state(digits <= stream.length());
        save();
        stream = stream.substring(digits);
        return stream.length();
    }

    // ---- texts

    int append(int code) {
        argument(in(33, code, 126));
        state(text.length() < 60);
        text += (char) code;
        return text.length();
    }

    int clearBuffer() {
        int length = text.length();
        text = "";
        return length;
    }

    private static boolean begins(String text) {
        String[] parts = text.split(";", -1);
        for (int i = 0; i < parts.length - 1; i++) {
            if (!PARTS.contains(parts[i])) {
                return false;
            }
        }
        return BEGINNINGS.contains(parts[parts.length - 1]);
    }

    int firstError() {
        int good = 0;
        while (good < text.length() && begins(text.substring(0, good + 1))) {
            good++;
        }
        return good;
    }

    int work() {
        String[] parts = text.split(";", -1);
        argument(PARTS.containsAll(Arrays.asList(parts)));
        save();
        text = "";
        stopPart = -1;
        stopReason = 0;
        for (int i = 0; i < parts.length; i++) {
            List<Model> kept = new ArrayList<>(saved);
            int reason = partReason(parts[i]);
            saved.clear();
            saved.addAll(kept);
            if (reason != 0) {
                stopPart = i;
                stopReason = reason;
                return i;
            }
        }
        return parts.length;
    }

    private int partReason(String part) {
        char kind = Character.isDigit(part.charAt(0)) ? part.charAt(1) : part.charAt(0);
        int stall = part.charAt(0) - '0';
        String rest = part.substring(part.indexOf(kind) + 1);
        int value = rest.isEmpty() ? 0 : Integer.parseInt(rest);
        try {
            switch (kind) {
                case '=' -> set(stall, value);
                case '+' -> add(stall, value);
                case '-' -> takeAway(stall, value);
                case '^' -> raise(stall);
                case 's' -> send(value);
                default -> turn(value);
            }
            return 0;
        } catch (IllegalStateException e) {
            return kind == 's' ? 3 : kind == '-' ? 2 : 1;
        } catch (IndexOutOfBoundsException e) {
            return 4;
        }
    }

    boolean hasStopped() {
        return stopPart >= 0;
    }

    int stoppedPart() {
        state(hasStopped());
        return stopPart;
    }

    int whyStopped() {
        state(hasStopped());
        return stopReason;
    }

    // ---- undo, the snapshot

    int undo() {
        state(!saved.isEmpty());
        take(saved.remove(saved.size() - 1));
        return saved.size();
    }

    int keep() {
        snapshot = copy();
        return total();
    }

    int restore() {
        state(snapshot != null);
        save();
        take(snapshot);
        return total();
    }

    int savedStates() {
        return saved.size();
    }

    // ---- looks at numbers

    int worthOf(int step) {
        index(in(0, step, 17));
        return WORTH[step];
    }

    int worthOfSet(int mark) {
        argument(in(0, mark, 262143));
        return worthOf(mark, 18);
    }

    private static int look(int[] row, int number) {
        argument(in(0, number, MAX));
        return row[number];
    }

    int say(int number) {
        return look(SAID, number);
    }

    int sayByCounting(int number) {
        return look(COUNTED, number);
    }

    int fullSet(int number) {
        return look(FULL, number);
    }

    int ways(int number) {
        return look(WAYS, number);
    }

    int waysByGaps(int number) {
        return look(WAYS, number);
    }

    private static List<Integer> spoken(int tribe, int number) {
        index(in(0, tribe, 2));
        argument(in(0, number, MAX));
        List<Integer> words = new ArrayList<>();
        int ahead = 0;
        for (int step = 0; step < 18; step++) {
            if ((SAID[number] & 1 << step) != 0) {
                words.add(tribe == 0 ? 0 : words.size(), tribe == 2 ? step - ahead : step);
                ahead = step;
            }
        }
        return words;
    }

    int spokenLength(int tribe, int number) {
        return spoken(tribe, number).size();
    }

    int spokenAt(int tribe, int number, int place) {
        List<Integer> words = spoken(tribe, number);
        argument(in(0, place, words.size() - 1));
        return words.get(place);
    }

    // ---- looks at stalls

    int numberOf(int stall) {
        stall(stall);
        return stalls[stall];
    }

    int stepsOf(int stall) {
        stall(stall);
        return spoken(1, stalls[stall]).size();
    }

    int total() {
        return Arrays.stream(stalls).sum();
    }

    int richest() {
        int most = Arrays.stream(stalls).max().getAsInt();
        int stall = 0;
        while (stalls[stall] != most) {
            stall++;
        }
        return stall;
    }

    int sumByCarries(int stall, int other) {
        stall(stall);
        stall(other);
        return carried(SAID[stalls[stall]], SAID[stalls[other]])[0];
    }

    int carries(int stall, int other) {
        stall(stall);
        stall(other);
        return carried(SAID[stalls[stall]], SAID[stalls[other]])[1];
    }

    // ---- looks at the stream

    /** The numbers that are read, then the number of errors, then that of loose digits. */
    private static List<Integer> read(String digits) {
        List<Integer> read = new ArrayList<>();
        int errors = 0;
        String left = digits;
        for (int at = left.indexOf("11"); at >= 0; at = left.indexOf("11")) {
            String steps = left.substring(0, at + 1);
            if (steps.length() > 18) {
                errors++;
            } else {
                String mark = new StringBuilder(steps).reverse().toString();
                read.add(worthOf(Integer.parseInt(mark, 2), 18));
            }
            left = left.substring(at + 2);
        }
        read.add(errors);
        read.add(left.length());
        return read;
    }

    int streamLength() {
        return stream.length();
    }

    int digitAt(int place) {
        index(in(0, place, stream.length() - 1));
        return stream.charAt(place) - '0';
    }

    int readNumbers() {
        return read(stream).size() - 2;
    }

    int readAt(int place) {
        index(in(0, place, readNumbers() - 1));
        return read(stream).get(place);
    }

    int errors() {
        return read(stream).get(readNumbers());
    }

    int looseDigits() {
        return read(stream).get(readNumbers() + 1);
    }

    // ---- what would be

    int readIfTurned(int place) {
        index(in(0, place, stream.length() - 1));
        return read(turned(place)).size() - 2;
    }

    int codeLength(int number) {
        argument(in(1, number, MAX));
        return code(number).length();
    }

    double sparseShare() {
        int steps = 0;
        int full = 0;
        for (int number : stalls) {
            steps += Integer.bitCount(SAID[number]);
            full += Integer.bitCount(FULL[number]);
        }
        return full == 0 ? 1.0 : (double) steps / full;
    }

    long digest() {
        List<Long> values = new ArrayList<>();
        values.add((long) total());
        values.add((long) richest());
        values.add((long) savedStates());
        for (int number : stalls) {
            for (int value : new int[] {number, SAID[number], FULL[number], WAYS[number], WAYS[number]}) {
                values.add((long) value);
            }
            values.add((long) spoken(0, number).size());
            for (int tribe = 0; tribe < 3; tribe++) {
                values.add((long) spokenLength(tribe, number));
                spoken(tribe, number).forEach(word -> values.add((long) word));
            }
        }
        for (int stall = 0; stall < 6; stall++) {
            values.add((long) sumByCarries(stall, stall == 5 ? 0 : stall + 1));
            values.add((long) carries(stall, stall == 5 ? 0 : stall + 1));
        }
        values.add((long) sayByCounting(stalls[0]));
        values.add((long) stream.length());
        stream.chars().forEach(digit -> values.add(digit - (long) '0'));
        values.add((long) readNumbers());
        read(stream).forEach(value -> values.add((long) value));
        if (!stream.isEmpty()) {
            values.add((long) readIfTurned(0));
        }
        values.add(hasStopped() ? 1L : 0L);
        if (hasStopped()) {
            values.add((long) stopPart);
            values.add((long) stopReason);
        }
        values.add(Double.doubleToLongBits(sparseShare()));
        values.add((long) text.length());
        text.chars().forEach(code -> values.add((long) code));
        long hash = 4549;
        for (long value : values) {
            hash = 31 * hash + value;
        }
        return hash;
    }
}
