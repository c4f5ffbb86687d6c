/** Numbers spoken in steps where no two steps are neighbours; ../shared/DOC.md says what it does. */
public final class ApartSteps {
    private static final int STEPS = 18;
    private static final int MAX_NUMBER = 6764;
    private static final int MAX_MARK = 262143;
    private static final int STALLS = 6;
    private static final int TRIBES = 3;
    private static final int MAX_DIGITS = 64;
    private static final int MAX_TEXT = 60;
    private static final int MAX_SAVED = 5;

    private static final int NOT_STOPPED = -1;
    private static final int DONE = 0;
    private static final int TOO_GREAT = 1;
    private static final int BELOW_ZERO = 2;
    private static final int STREAM_FULL = 3;
    private static final int NO_DIGIT = 4;

    private static final int[] WORTHS = {
        1, 2, 3, 5, 8, 13, 21, 34, 55, 89, 144, 233, 377, 610, 987, 1597, 2584, 4181, 6765
    };

    private final State now = new State();
    private final State snapshot = new State();
    private boolean snapshotTaken;
    private final State[] saved = new State[MAX_SAVED];
    private int savedCount;
    private final char[] text = new char[MAX_TEXT];
    private int textLength;
    private final TextScan scan = new TextScan();
    private final Reading reading = new Reading();
    private final Carrying carrying = new Carrying();
    private final WaysRow oneRow = new WaysRow();
    private final WaysRow otherRow = new WaysRow();

    public ApartSteps() {
        for (int i = 0; i < saved.length; i++) {
            saved[i] = new State();
        }
    }

    // ---- stalls

    public int set(int stall, int number) throws IndexOutOfBoundsException, IllegalArgumentException {
        checkStall(stall);
        checkNumber(number);
        int before = now.numberIn(stall);
        saveNow();
        now.give(stall, number);
        return before;
    }

    public int add(int stall, int other) throws IndexOutOfBoundsException, IllegalStateException {
        checkStall(stall);
        checkStall(other);
        int sum = now.numberIn(stall) + now.numberIn(other);
        if (sum > MAX_NUMBER) {
            throw new IllegalStateException("the sum would be above 6764");
        }
        int count = carryStalls(stall, other);
        saveNow();
        now.give(stall, sum);
        return count;
    }

    public int takeAway(int stall, int other) throws IndexOutOfBoundsException, IllegalStateException {
        checkStall(stall);
        checkStall(other);
        int difference = now.numberIn(stall) - now.numberIn(other);
        if (difference < 0) {
            throw new IllegalStateException("the difference would be below 0");
        }
        saveNow();
        now.give(stall, difference);
        return difference;
    }

    public int raise(int stall) throws IndexOutOfBoundsException, IllegalStateException {
        checkStall(stall);
        int mark = greedyMark(now.numberIn(stall));
        if (!canRaise(mark)) {
            throw new IllegalStateException("the number has the step 17");
        }
        saveNow();
        now.give(stall, raisedWorth(mark));
        return now.numberIn(stall);
    }

    public int pay(int stall, int other, int number)
            throws IndexOutOfBoundsException, IllegalArgumentException, IllegalStateException {
        checkStall(stall);
        checkStall(other);
        checkNumberFromOne(number);
        if (stall == other) {
            throw new IllegalArgumentException("both stalls are the same");
        }
        int left = now.numberIn(stall) - number;
        int sum = now.numberIn(other) + number;
        if (left < 0 || sum > MAX_NUMBER) {
            throw new IllegalStateException("the number can't be paid");
        }
        saveNow();
        now.give(stall, left);
        now.give(other, sum);
        return left;
    }

    // ---- the stream

    public int send(int number) throws IllegalArgumentException, IllegalStateException {
        checkNumberFromOne(number);
        if (!now.hasRoomFor(number)) {
            throw new IllegalStateException("the stream would have more than 64 digits");
        }
        saveNow();
        now.putCode(number);
        return now.length;
    }

    public int turn(int place) throws IndexOutOfBoundsException {
        checkDigit(place);
        saveNow();
        now.turnDigit(place);
        return digitOf(now.digits, place);
    }

    public int cut(int digits) throws IllegalArgumentException, IllegalStateException {
        if (digits < 1 || digits > MAX_DIGITS) {
            throw new IllegalArgumentException("digits are 1 to 64");
        }
        if (digits > now.length) {
            throw new IllegalStateException("the stream has fewer digits");
        }
        saveNow();
        now.dropFirst(digits);
        return now.length;
    }

    // ---- texts

    public int append(int code) throws IllegalArgumentException, IllegalStateException {
        if (code < 33 || code > 126) {
            throw new IllegalArgumentException("a character code is 33 to 126");
        }
        if (textLength < 0 || textLength >= text.length) {
            throw new IllegalStateException("the buffer has 60 characters");
        }
        text[textLength] = (char) code;
        textLength++;
        return textLength;
    }

    public int clearBuffer() {
        int before = textLength;
        textLength = 0;
        return before;
    }

    public int firstError() {
        return scanText();
    }

    public int work() throws IllegalArgumentException {
        if (scanText() < textLength || !scan.isComplete()) {
            throw new IllegalArgumentException("the buffer is not complete works as a text");
        }
        saveNow();
        int done = doParts();
        textLength = 0;
        return done;
    }

    public boolean hasStopped() {
        return now.stopPart != NOT_STOPPED;
    }

    public int stoppedPart() throws IllegalStateException {
        checkStopped();
        return now.stopPart;
    }

    public int whyStopped() throws IllegalStateException {
        checkStopped();
        return now.stopReason;
    }

    // ---- undo, the snapshot

    public int undo() throws IllegalStateException {
        if (savedCount < 1 || savedCount > saved.length) {
            throw new IllegalStateException("there is no saved state");
        }
        savedCount--;
        copyState(saved[savedCount], now);
        return savedCount;
    }

    public int keep() {
        copyState(now, snapshot);
        snapshotTaken = true;
        return now.sum();
    }

    public int restore() throws IllegalStateException {
        if (!snapshotTaken) {
            throw new IllegalStateException("there is no snapshot");
        }
        saveNow();
        copyState(snapshot, now);
        return now.sum();
    }

    public int savedStates() {
        return savedCount;
    }

    // ---- looks at numbers; nothing is changed

    public int worthOf(int step) throws IndexOutOfBoundsException {
        if (step < 0 || step >= STEPS) {
            throw new IndexOutOfBoundsException("there is no such step");
        }
        return worth(step);
    }

    public int worthOfSet(int mark) throws IllegalArgumentException {
        if (mark < 0 || mark > MAX_MARK) {
            throw new IllegalArgumentException("a mark is 0 to 262143");
        }
        return worthOfMark(mark);
    }

    public int say(int number) throws IllegalArgumentException {
        checkNumber(number);
        return greedyMark(number);
    }

    public int sayByCounting(int number) throws IllegalArgumentException {
        checkNumber(number);
        return countedMark(number);
    }

    public int fullSet(int number) throws IllegalArgumentException {
        checkNumber(number);
        return fullMark(number);
    }

    public int ways(int number) throws IllegalArgumentException {
        checkNumber(number);
        return waysInTable(number);
    }

    public int waysByGaps(int number) throws IllegalArgumentException {
        checkNumber(number);
        return waysOfMark(greedyMark(number));
    }

    public int spokenLength(int tribe, int number)
            throws IndexOutOfBoundsException, IllegalArgumentException {
        checkTribe(tribe);
        checkNumber(number);
        return Integer.bitCount(greedyMark(number));
    }

    public int spokenAt(int tribe, int number, int place)
            throws IndexOutOfBoundsException, IllegalArgumentException {
        checkTribe(tribe);
        checkNumber(number);
        int mark = greedyMark(number);
        if (place < 0 || place >= Integer.bitCount(mark)) {
            throw new IllegalArgumentException("the number has no such word");
        }
        return wordAt(tribe, mark, place);
    }

    // ---- looks at stalls

    public int numberOf(int stall) throws IndexOutOfBoundsException {
        checkStall(stall);
        return now.numberIn(stall);
    }

    public int stepsOf(int stall) throws IndexOutOfBoundsException {
        checkStall(stall);
        return Integer.bitCount(greedyMark(now.numberIn(stall)));
    }

    public int total() {
        return now.sum();
    }

    public int richest() {
        int best = 0;
        for (int stall = 1; stall < STALLS; stall++) {
            if (now.numberIn(stall) > now.numberIn(best)) {
                best = stall;
            }
        }
        return best;
    }

    public int sumByCarries(int stall, int other) throws IndexOutOfBoundsException {
        checkStall(stall);
        checkStall(other);
        carryStalls(stall, other);
        return carrying.toMark();
    }

    public int carries(int stall, int other) throws IndexOutOfBoundsException {
        checkStall(stall);
        checkStall(other);
        return carryStalls(stall, other);
    }

    // ---- looks at the stream

    public int streamLength() {
        return now.length;
    }

    public int digitAt(int place) throws IndexOutOfBoundsException {
        checkDigit(place);
        return digitOf(now.digits, place);
    }

    public int readNumbers() {
        reading.readAll(now.digits, now.length);
        return reading.count;
    }

    public int readAt(int place) throws IndexOutOfBoundsException {
        reading.readAll(now.digits, now.length);
        if (place < 0 || place >= reading.count) {
            throw new IndexOutOfBoundsException("there are not so many numbers");
        }
        return reading.numberAt(place);
    }

    public int errors() {
        reading.readAll(now.digits, now.length);
        return reading.skipped;
    }

    public int looseDigits() {
        reading.readAll(now.digits, now.length);
        return reading.loose;
    }

    // ---- what would be; nothing is changed

    public int readIfTurned(int place) throws IndexOutOfBoundsException {
        checkDigit(place);
        return countIfTurned(place);
    }

    public int codeLength(int number) throws IllegalArgumentException {
        checkNumberFromOne(number);
        return lengthOfCode(greedyMark(number));
    }

    public double sparseShare() {
        int steps = 0;
        int fullSteps = 0;
        for (int stall = 0; stall < STALLS; stall++) {
            steps += Integer.bitCount(greedyMark(now.numberIn(stall)));
            fullSteps += Integer.bitCount(fullMark(now.numberIn(stall)));
        }
        if (fullSteps == 0) {
            return 1.0;
        }
        return (double) steps / (double) fullSteps;
    }

    public long digest() {
        long hash = 4549L;
        hash = mix(hash, total());
        hash = mix(hash, richest());
        hash = mix(hash, savedStates());
        for (int stall = 0; stall < STALLS; stall++) {
            hash = mixNumber(hash, now.numberIn(stall));
        }
        for (int stall = 0; stall < STALLS; stall++) {
            int count = carryStalls(stall, (stall + 1) % STALLS);
            hash = mix(hash, carrying.toMark());
            hash = mix(hash, count);
        }
        hash = mix(hash, countedMark(now.numberIn(0)));
        hash = mixStream(hash);
        hash = mixStop(hash);
        hash = mix(hash, bitsOfShare(sparseShare()));
        return mixText(hash);
    }

    // ---- checks of arguments

    private static void checkStall(int stall) {
        if (stall < 0 || stall >= STALLS) {
            throw new IndexOutOfBoundsException("there is no such stall");
        }
    }

    private static void checkTribe(int tribe) {
        if (tribe < 0 || tribe >= TRIBES) {
            throw new IndexOutOfBoundsException("there is no such tribe");
        }
    }

    private static void checkNumber(int number) {
        if (number < 0 || number > MAX_NUMBER) {
            throw new IllegalArgumentException("a number is 0 to 6764");
        }
    }

    private static void checkNumberFromOne(int number) {
        if (number < 1 || number > MAX_NUMBER) {
            throw new IllegalArgumentException("the number has to be 1 to 6764");
        }
    }

    private void checkDigit(int place) {
        if (place < 0 || place >= now.length) {
            throw new IndexOutOfBoundsException("there is no such digit");
        }
    }

    private void checkStopped() {
        if (now.stopPart == NOT_STOPPED) {
            throw new IllegalStateException("the latest works did not stop");
        }
    }

    // ---- saved states

    private void saveNow() {
        if (savedCount >= MAX_SAVED) {
            dropOldest();
        }
        if (savedCount >= 0 && savedCount < saved.length) {
            copyState(now, saved[savedCount]);
            savedCount++;
        }
    }

    // The oldest state's object moves to the end to be filled anew, so that saving makes no objects.
    private void dropOldest() {
        for (int i = 1; i < saved.length; i++) {
            State oldest = saved[i - 1];
            saved[i - 1] = saved[i];
            saved[i] = oldest;
        }
        savedCount = saved.length - 1;
    }

    private static void copyState(State from, State to) {
        if (from != null && to != null) {
            to.copyOf(from);
        }
    }

    // ---- steps and marks

    private static int worth(int step) {
        return step >= 0 && step < WORTHS.length ? WORTHS[step] : 0;
    }

    private static boolean hasStep(int mark, int step) {
        return (mark >> step & 1) == 1;
    }

    private static int worthOfMark(int mark) {
        int sum = 0;
        for (int step = 0; step < STEPS; step++) {
            if (hasStep(mark, step)) {
                sum += worth(step);
            }
        }
        return sum;
    }

    private static int greedyMark(int number) {
        int mark = 0;
        int left = number;
        for (int step = STEPS - 1; step >= 0; step--) {
            if (worth(step) <= left) {
                left -= worth(step);
                mark |= 1 << step;
            }
        }
        return mark;
    }

    // Adding 1 to the mark adds the step 0, and carries it to the step 1 if it counts twice. Behind
    // that at most two neighbours count at a time, and adding the lower one's bit carries both.
    private static int countedMark(int number) {
        int mark = 0;
        for (int counted = 0; counted < number; counted++) {
            mark++;
            int lower = mark & mark >> 1;
            for (int carry = 0; carry < STEPS && lower != 0; carry++) {
                mark += lower;
                lower = mark & mark >> 1;
            }
        }
        return mark;
    }

    // All steps below a step are together worth 2 less than the step above it.
    private static int worthBelow(int step) {
        return worth(step + 1) - 2;
    }

    // A step is taken only where all steps below it would not do: this leaves no two neighbours out.
    private static int fullMark(int number) {
        int mark = 0;
        int left = number;
        for (int step = STEPS - 1; step >= 0; step--) {
            if (left > worthBelow(step)) {
                left -= worth(step);
                mark |= 1 << step;
            }
        }
        return mark;
    }

    private static boolean canRaise(int mark) {
        return !hasStep(mark, STEPS - 1);
    }

    private static int raisedWorth(int mark) {
        return worthOfMark(mark << 1);
    }

    // ---- ways

    // The table has one row a step, of what can be left for the steps below it. What these can't
    // make is left out: at most two entries stay, so that a row is short, and two rows are enough.
    private int waysInTable(int number) {
        WaysRow row = oneRow;
        WaysRow next = otherRow;
        row.clear();
        row.put(number, 1);
        for (int step = STEPS - 1; step >= 0; step--) {
            next.clear();
            row.goOn(step, next);
            WaysRow free = row;
            row = next;
            next = free;
        }
        return row.countOf(0);
    }

    private static int waysOfMark(int mark) {
        int first = 1;
        int second = 0;
        int ahead = -1;
        for (int step = 0; step < STEPS; step++) {
            if (hasStep(mark, step)) {
                if (ahead < 0) {
                    second = step / 2;
                } else {
                    int gap = step - ahead;
                    int both = first + second;
                    second = first * ((gap - 1) / 2) + second * (gap / 2);
                    first = both;
                }
                ahead = step;
            }
        }
        return first + second;
    }

    // ---- tribes

    private static int wordAt(int tribe, int mark, int place) {
        if (tribe == 0) {
            return stepFromLowest(mark, Integer.bitCount(mark) - 1 - place);
        }
        int step = stepFromLowest(mark, place);
        if (tribe == 1 || place == 0) {
            return step;
        }
        return step - stepFromLowest(mark, place - 1);
    }

    private static int stepFromLowest(int mark, int place) {
        int passed = 0;
        for (int step = 0; step < STEPS; step++) {
            if (hasStep(mark, step)) {
                if (passed == place) {
                    return step;
                }
                passed++;
            }
        }
        return -1;
    }

    // ---- carries

    private int carryStalls(int stall, int other) {
        return carrying.carryAll(greedyMark(now.numberIn(stall)), greedyMark(now.numberIn(other)));
    }

    // ---- the stream

    private static int lengthOfCode(int mark) {
        int steps = 0;
        for (int step = 0; step < STEPS; step++) {
            if (hasStep(mark, step)) {
                steps = step + 1;
            }
        }
        return steps + 1;
    }

    private static int digitOf(long digits, int place) {
        return (int) (digits >>> place & 1L);
    }

    private int countIfTurned(int place) {
        reading.readAll(now.digits ^ 1L << place, now.length);
        return reading.count;
    }

    // ---- texts

    // Answers the index of the first error, or the length; then the scan is at the end of the text.
    private int scanText() {
        scan.start();
        for (int i = 0; i < textLength && i < text.length; i++) {
            if (!scan.take(text[i])) {
                return i;
            }
        }
        return textLength;
    }

    private int doParts() {
        now.stopPart = NOT_STOPPED;
        now.stopReason = DONE;
        int done = 0;
        scan.start();
        for (int i = 0; i <= textLength && i <= text.length; i++) {
            char c = i < textLength && i < text.length ? text[i] : ';';
            if (c == ';') {
                int reason = doPart();
                if (reason != DONE) {
                    now.stopPart = done;
                    now.stopReason = reason;
                    return done;
                }
                done++;
            }
            scan.take(c);
        }
        return done;
    }

    private int doPart() {
        int number = now.numberIn(scan.stall);
        switch (scan.kind) {
            case '=':
                return giveIfFits(scan.value);
            case '+':
                return giveIfFits(number + now.numberIn(scan.value));
            case '-':
                return giveIfFits(number - now.numberIn(scan.value));
            case '^':
                return doRaise(greedyMark(number));
            case 's':
                return doSend(scan.value);
            default:
                return doTurn(scan.value);
        }
    }

    private int giveIfFits(int number) {
        if (number > MAX_NUMBER) {
            return TOO_GREAT;
        }
        if (number < 0) {
            return BELOW_ZERO;
        }
        now.give(scan.stall, number);
        return DONE;
    }

    private int doRaise(int mark) {
        if (!canRaise(mark)) {
            return TOO_GREAT;
        }
        now.give(scan.stall, raisedWorth(mark));
        return DONE;
    }

    private int doSend(int number) {
        if (!now.hasRoomFor(number)) {
            return STREAM_FULL;
        }
        now.putCode(number);
        return DONE;
    }

    private int doTurn(int place) {
        if (place >= now.length) {
            return NO_DIGIT;
        }
        now.turnDigit(place);
        return DONE;
    }

    // ---- the digest

    private static long mix(long hash, long value) {
        return 31L * hash + value;
    }

    private long mixNumber(long start, int number) {
        int mark = greedyMark(number);
        int steps = Integer.bitCount(mark);
        long hash = mix(start, number);
        hash = mix(hash, mark);
        hash = mix(hash, fullMark(number));
        hash = mix(hash, waysInTable(number));
        hash = mix(hash, waysOfMark(mark));
        hash = mix(hash, steps);
        for (int tribe = 0; tribe < TRIBES; tribe++) {
            hash = mix(hash, steps);
            for (int place = 0; place < steps; place++) {
                hash = mix(hash, wordAt(tribe, mark, place));
            }
        }
        return hash;
    }

    private long mixStream(long start) {
        long hash = mix(start, now.length);
        for (int place = 0; place < now.length; place++) {
            hash = mix(hash, digitOf(now.digits, place));
        }
        reading.readAll(now.digits, now.length);
        hash = mix(hash, reading.count);
        for (int place = 0; place < reading.count; place++) {
            hash = mix(hash, reading.numberAt(place));
        }
        hash = mix(hash, reading.skipped);
        hash = mix(hash, reading.loose);
        if (now.length > 0) {
            hash = mix(hash, countIfTurned(0));
        }
        return hash;
    }

    private long mixStop(long start) {
        if (now.stopPart == NOT_STOPPED) {
            return mix(start, 0L);
        }
        long hash = mix(start, 1L);
        hash = mix(hash, now.stopPart);
        return mix(hash, now.stopReason);
    }

    private long mixText(long start) {
        long hash = mix(start, textLength);
        for (int i = 0; i < textLength && i < text.length; i++) {
            hash = mix(hash, text[i]);
        }
        return hash;
    }

    // What Double.doubleToLongBits answers for a share, which is above 0 and at most 1; that
    // function itself is not in the library that ../shared/LANGUAGE.md leaves.
    private static long bitsOfShare(double share) {
        double scaled = share;
        long exponent = 1023L;
        for (int i = 0; i < 1023 && scaled < 1.0; i++) {
            scaled = scaled * 2.0;
            exponent--;
        }
        return exponent << 52 | (long) ((scaled - 1.0) * 4503599627370496.0);
    }

    /** All that is saved and restored. The digits are the lowest bits, those above the length are 0. */
    private static final class State {
        private final int[] numbers = new int[STALLS];
        long digits;
        int length;
        int stopPart = NOT_STOPPED;
        int stopReason = DONE;

        void copyOf(State from) {
            for (int stall = 0; stall < STALLS; stall++) {
                give(stall, from.numberIn(stall));
            }
            digits = from.digits;
            length = from.length;
            stopPart = from.stopPart;
            stopReason = from.stopReason;
        }

        int numberIn(int stall) {
            return stall >= 0 && stall < numbers.length ? numbers[stall] : 0;
        }

        void give(int stall, int number) {
            if (stall >= 0 && stall < numbers.length) {
                numbers[stall] = number;
            }
        }

        int sum() {
            int sum = 0;
            for (int stall = 0; stall < STALLS; stall++) {
                sum += numberIn(stall);
            }
            return sum;
        }

        boolean hasRoomFor(int number) {
            return length + lengthOfCode(greedyMark(number)) <= MAX_DIGITS;
        }

        void putCode(int number) {
            int mark = greedyMark(number);
            int added = lengthOfCode(mark);
            digits |= (mark | 1L << added - 1) << length;
            length += added;
        }

        void turnDigit(int place) {
            digits ^= 1L << place;
        }

        // A shift by 64 would shift by 0.
        void dropFirst(int count) {
            digits = count >= MAX_DIGITS ? 0L : digits >>> count;
            length -= count;
        }
    }

    /** What is read from a stream. */
    private static final class Reading {
        // The shortest code has two digits.
        private final int[] numbers = new int[MAX_DIGITS / 2];
        int count;
        int skipped;
        int loose;

        void readAll(long digits, int length) {
            count = 0;
            skipped = 0;
            int start = 0;
            for (int place = 1; place < length; place++) {
                if (place > start && digitOf(digits, place - 1) == 1 && digitOf(digits, place) == 1) {
                    endNumber(digits >>> start, place - start);
                    start = place + 1;
                }
            }
            loose = length - start;
        }

        private void endNumber(long digits, int steps) {
            if (steps > STEPS) {
                skipped++;
            } else if (count >= 0 && count < numbers.length) {
                long mark = digits & (1L << steps) - 1L;
                numbers[count] = worthOfMark((int) mark);
                count++;
            }
        }

        int numberAt(int place) {
            return place >= 0 && place < numbers.length ? numbers[place] : 0;
        }
    }

    /** How often each step counts while two sets are added. */
    private static final class Carrying {
        private static final int HIGHEST = 19;
        // Far above what two numbers ever need.
        private static final int MAX_CARRIES = 10000;

        // A carry at the highest step reaches 2 above it.
        private final int[] counts = new int[HIGHEST + 3];

        int carryAll(int mark, int other) {
            for (int step = 0; step < counts.length; step++) {
                counts[step] = (mark >> step & 1) + (other >> step & 1);
            }
            for (int done = 0; done < MAX_CARRIES; done++) {
                int step = firstToCarry();
                if (step < 0) {
                    return done;
                }
                carryAt(step);
            }
            return MAX_CARRIES;
        }

        private int countOf(int step) {
            return step >= 0 && step < counts.length ? counts[step] : 0;
        }

        private void change(int step, int by) {
            if (step >= 0 && step < counts.length) {
                counts[step] += by;
            }
        }

        private boolean countsWithNext(int step) {
            return countOf(step) >= 1 && countOf(step + 1) >= 1;
        }

        private int firstToCarry() {
            for (int step = HIGHEST; step >= 0; step--) {
                if (countsWithNext(step) || countOf(step) >= 2) {
                    return step;
                }
            }
            return -1;
        }

        private void carryAt(int step) {
            if (countsWithNext(step)) {
                change(step, -1);
                change(step + 1, -1);
                change(step + 2, 1);
                return;
            }
            change(step, -2);
            change(step + 1, 1);
            if (step == 1) {
                change(0, 1);
            } else if (step > 1) {
                change(step - 2, 1);
            }
        }

        int toMark() {
            int mark = 0;
            for (int step = 0; step < counts.length; step++) {
                if (counts[step] > 0) {
                    mark |= 1 << step;
                }
            }
            return mark;
        }
    }

    /** A row of the table of ways: what can be left, and in how many ways. */
    private static final class WaysRow {
        private final int[] lefts = new int[4];
        private final int[] counts = new int[4];
        private int size;

        void clear() {
            size = 0;
        }

        void put(int left, int count) {
            for (int i = 0; i < size && i < lefts.length && i < counts.length; i++) {
                if (lefts[i] == left) {
                    counts[i] += count;
                    return;
                }
            }
            if (size >= 0 && size < lefts.length && size < counts.length) {
                lefts[size] = left;
                counts[size] = count;
                size++;
            }
        }

        void goOn(int step, WaysRow next) {
            for (int i = 0; i < size && i < lefts.length && i < counts.length; i++) {
                if (lefts[i] <= worthBelow(step)) {
                    next.put(lefts[i], counts[i]);
                }
                int rest = lefts[i] - worth(step);
                if (rest >= 0 && rest <= worthBelow(step)) {
                    next.put(rest, counts[i]);
                }
            }
        }

        int countOf(int left) {
            for (int i = 0; i < size && i < lefts.length && i < counts.length; i++) {
                if (lefts[i] == left) {
                    return counts[i];
                }
            }
            return 0;
        }
    }

    /** Reads works as a text, a character at a time, and holds what the latest part tells. */
    private static final class TextScan {
        private static final int PART = 0;
        private static final int OPERATION = 1;
        private static final int OTHER_STALL = 2;
        private static final int FIRST_DIGIT = 3;
        private static final int MORE_DIGITS = 4;
        private static final int END_OF_PART = 5;

        private int expected;
        char kind;
        int stall;
        int value;
        private int least;
        private int most;

        void start() {
            expected = PART;
        }

        boolean isComplete() {
            return expected == MORE_DIGITS || expected == END_OF_PART;
        }

        /** Answers false, and stays as it is, if the character is a syntax error. */
        boolean take(char c) {
            switch (expected) {
                case PART:
                    return takeBegin(c);
                case OPERATION:
                    return takeOperation(c);
                case OTHER_STALL:
                    return takeOtherStall(c);
                case FIRST_DIGIT:
                    return takeFirstDigit(c);
                case MORE_DIGITS:
                    return takeDigit(c) || takeSeparator(c);
                default:
                    return takeSeparator(c);
            }
        }

        private boolean takeBegin(char c) {
            if (c == 's') {
                return expectNumber(c, 1, MAX_NUMBER);
            }
            if (c == 'f') {
                return expectNumber(c, 0, MAX_DIGITS - 1);
            }
            if (!isStall(c)) {
                return false;
            }
            stall = c - '0';
            expected = OPERATION;
            return true;
        }

        private boolean takeOperation(char c) {
            if (c == '=') {
                return expectNumber(c, 0, MAX_NUMBER);
            }
            if (c != '+' && c != '-' && c != '^') {
                return false;
            }
            kind = c;
            expected = c == '^' ? END_OF_PART : OTHER_STALL;
            return true;
        }

        private boolean expectNumber(char newKind, int newLeast, int newMost) {
            kind = newKind;
            least = newLeast;
            most = newMost;
            expected = FIRST_DIGIT;
            return true;
        }

        private boolean takeOtherStall(char c) {
            if (!isStall(c)) {
                return false;
            }
            value = c - '0';
            expected = END_OF_PART;
            return true;
        }

        private boolean takeFirstDigit(char c) {
            if (!isDigit(c) || c - '0' < least) {
                return false;
            }
            value = c - '0';
            expected = value == 0 ? END_OF_PART : MORE_DIGITS;
            return true;
        }

        private boolean takeDigit(char c) {
            if (!isDigit(c) || value * 10 + c - '0' > most) {
                return false;
            }
            value = value * 10 + c - '0';
            return true;
        }

        private boolean takeSeparator(char c) {
            if (c != ';') {
                return false;
            }
            expected = PART;
            return true;
        }

        private static boolean isStall(char c) {
            return c >= '0' && c < '0' + STALLS;
        }

        private static boolean isDigit(char c) {
            return c >= '0' && c <= '9';
        }
    }
}
