/** The boundary cases of the promises 7 to 9 and 36 to 43: the stream. */
public final class StreamBoundsTest extends Bounds {
    private static final String ALL_ONES = times("1", 64);
    private static final String ALL_ZEROS = times("0", 64);

    public static void main(String[] arguments) throws ReflectiveOperationException {
        run(StreamBoundsTest.class);
    }

    private void dueStream(String digits) {
        same("the stream", streamNow(), digits);
    }

    private void dueRead(int errors, int loose, int... numbers) {
        due(numbers.length, "readNumbers");
        for (int place = 0; place < numbers.length; place++) {
            due(numbers[place], "readAt", place);
        }
        due(INDEX, "readAt", numbers.length);
        due(errors, "errors");
        due(loose, "looseDigits");
    }

    // ---- promise 7: send

    @Says(promise = 7, it = "Sends a number.")
    void sendChangesTheStreamAlone() {
        busy();
        long total = Long.parseLong(ask("total"));
        due(30, "send", 1);
        dueStream(BUSY_STREAM + "11");
        due(total, "total");
        due(true, "hasStopped");
        due(6, "clearBuffer");
    }

    @Says(promise = 7, it = "Undoable.")
    void sendIsUndone() {
        undoable(2, "send", 1);
        undoable(21, "send", 6764);
    }

    @Says(promise = 7, it = "`number`: 1 to 6764")
    void sendTakesNumbers1To6764() {
        refused(ARGUMENT, "send", 0);
        refused(ARGUMENT, "send", 6765);
        due(2, "send", 1);
        dueStream("11");
        due(21, "send", 6764);
        dueStream("11" + "0101010101010101011");
    }

    @Says(promise = 7, it = "Returns the length of the stream then.")
    void sendAnswers2To64() {
        due(2, "send", 1);
        for (int length = 4; length <= 64; length += 2) {
            due(length, "send", 1);
            due(length, "streamLength");
        }
    }

    @Says(promise = 7, it = "Throws `IllegalArgumentException` if number is out of range")
    void sendRefusesOtherNumbers() {
        for (int number : outside(1, 6764)) {
            refusedByNewAndBusy(ARGUMENT, "send", number);
        }
    }

    @Says(promise = 7, it = "Throws `IllegalStateException` if the stream would have more than 64 digits")
    void sendFillsTheStreamTo64() {
        works("s6764;s6764;s6764;s5");
        due(62, "streamLength");
        refused(STATE, "send", 2);
        refused(STATE, "send", 6764);
        due(64, "send", 1);
        refused(STATE, "send", 1);
        due(64, "streamLength");
    }

    @Says(promise = 7, it = "if the stream would have more than 64 digits")
    void sendFillsTheStreamByTheLongestCode() {
        works("s6764;s6764;s8;s1");
        due(46, "streamLength");
        refused(STATE, "send", 4181);
        refused(STATE, "send", 6764);
        due(45, "cut", 1);
        due(64, "send", 6764);
    }

    @Says(promise = 7, it = "if the stream would have more than 64 digits")
    void sendRefusesOneDigitMore() {
        works("s6764;s6764;s6764;s8");
        due(63, "streamLength");
        refused(STATE, "send", 1);
        due(62, "cut", 1);
        due(64, "send", 1);
        due(63, "cut", 1);
        refused(STATE, "send", 1);
    }

    @Says(promise = 7, it = "If several exceptions apply, the one that is named first in the throws clause is thrown.")
    void sendRefusesTheNumberFirst() {
        works("s6764;s6764;s6764;s13");
        due(64, "streamLength");
        for (int number : outside(1, 6764)) {
            refused(ARGUMENT, "send", number);
        }
        refused(STATE, "send", 1);
    }

    // ---- promise 8: turn

    @Says(promise = 8, it = "Turns a digit of the stream.")
    void turnChangesThatDigitAlone() {
        for (int place : new int[] {0, 1, 31, 32, 62, 63}) {
            stream(ALL_ZEROS);
            due(1, "turn", place);
            dueStream(times("0", place) + "1" + times("0", 63 - place));
        }
        stream(ALL_ONES);
        due(0, "turn", 63);
        dueStream(times("1", 63) + "0");
    }

    @Says(promise = 8, it = "Undoable.")
    void turnIsUndone() {
        works("s2");
        undoable(1, "turn", 0);
        undoable(0, "turn", 2);
    }

    @Says(promise = 8, it = "`place`: from 0")
    void turnTakesPlacesFrom0() {
        ask("send", 2);
        refused(INDEX, "turn", -1);
        due(1, "turn", 0);
        due(0, "turn", 2);
        refused(INDEX, "turn", 3);
    }

    @Says(promise = 8, it = "Returns the digit then.")
    void turnAnswers0Or1() {
        ask("send", 1);
        due(0, "turn", 1);
        due(0, "digitAt", 1);
        due(1, "turn", 1);
        due(1, "digitAt", 1);
    }

    @Says(promise = 8, it = "Throws `IndexOutOfBoundsException` if there is no such digit")
    void turnRefusesOtherPlaces() {
        for (int place : new int[] {-1, 0, 1, 63, 64, Integer.MIN_VALUE, Integer.MAX_VALUE}) {
            begin();
            refused(INDEX, "turn", place);
        }
        busy();
        for (int place : outside(0, BUSY_STREAM.length() - 1)) {
            refused(INDEX, "turn", place);
        }
        due(1, "turn", BUSY_STREAM.length() - 1);
    }

    @Says(promise = 8, it = "if there is no such digit")
    void turnTakesTheLastOf64() {
        stream(ALL_ONES);
        for (int place : outside(0, 63)) {
            refused(INDEX, "turn", place);
        }
        due(0, "turn", 63);
        due(63, "cut", 1);
        refused(INDEX, "turn", 63);
        due(1, "turn", 62);
    }

    // ---- promise 9: cut

    @Says(promise = 9, it = "Takes the first digits out of the stream.")
    void cutLeavesTheLastDigits() {
        stream("0011");
        due(3, "cut", 1);
        dueStream("011");
        due(1, "cut", 2);
        dueStream("1");
        due(3, "send", 1);
        dueStream("111");
    }

    @Says(promise = 9, it = "Undoable.")
    void cutIsUndone() {
        works("s6764;s6764;s6764;s13");
        undoable(0, "cut", 64);
        ask("undo");
        undoable(63, "cut", 1);
    }

    @Says(promise = 9, it = "`digits`: 1 to 64")
    void cutTakes1To64() {
        stream(ALL_ONES);
        refused(ARGUMENT, "cut", 0);
        refused(ARGUMENT, "cut", 65);
        due(0, "cut", 64);
        dueStream("");
        dueRead(0, 0);
        due(3, "send", 2);
        dueStream("011");
        due(2, "cut", 1);
        dueStream("11");
    }

    @Says(promise = 9, it = "Returns the length then.")
    void cutAnswers0To63() {
        stream(ALL_ONES);
        due(63, "cut", 1);
        due(63, "streamLength");
        due(1, "cut", 62);
        due(0, "cut", 1);
        due(0, "streamLength");
    }

    @Says(promise = 9, it = "Throws `IllegalArgumentException` if digits is out of range")
    void cutRefusesOtherCounts() {
        for (int digits : outside(1, 64)) {
            refusedByNewAndBusy(ARGUMENT, "cut", digits);
            stream(ALL_ONES);
            refused(ARGUMENT, "cut", digits);
        }
    }

    @Says(promise = 9, it = "Throws `IllegalStateException` if there are fewer")
    void cutRefusesMoreThanThereAre() {
        refused(STATE, "cut", 1);
        refused(STATE, "cut", 64);
        busy();
        refused(STATE, "cut", BUSY_STREAM.length() + 1);
        refused(STATE, "cut", 64);
        due(0, "cut", BUSY_STREAM.length());
        refused(STATE, "cut", 1);
        stream(times("1", 63));
        refused(STATE, "cut", 64);
        due(0, "cut", 63);
    }

    @Says(promise = 9, it = "If several exceptions apply, the one that is named first in the throws clause is thrown.")
    void cutRefusesTheCountFirst() {
        refused(STATE, "cut", 64);
        refused(ARGUMENT, "cut", 65);
        refused(ARGUMENT, "cut", Integer.MAX_VALUE);
        busy();
        refused(ARGUMENT, "cut", 65);
    }

    // ---- promise 36: streamLength

    @Says(promise = 36, it = "Returns the length of the stream.")
    void streamLengthAnswers0To64() {
        due(0, "streamLength");
        ask("send", 2);
        due(3, "streamLength");
        stream(ALL_ZEROS);
        due(64, "streamLength");
        ask("turn", 63);
        due(64, "streamLength");
        ask("cut", 1);
        due(63, "streamLength");
    }

    // ---- promise 37: digitAt

    @Says(promise = 37, it = "Returns a digit of the stream.")
    void digitAtAnswersEachOf64() {
        stream(times("011", 21) + "0");
        for (int place = 0; place < 64; place++) {
            due(place % 3 == 0 ? 0 : 1, "digitAt", place);
        }
    }

    @Says(promise = 37, it = "`place`: from 0")
    void digitAtTakesPlacesFrom0() {
        ask("send", 2);
        due(0, "digitAt", 0);
        refused(INDEX, "digitAt", -1);
    }

    @Says(promise = 37, it = "Returns 0 or 1.")
    void digitAtAnswers0Or1() {
        stream(ALL_ONES);
        due(1, "digitAt", 0);
        due(1, "digitAt", 63);
        stream(ALL_ZEROS);
        due(0, "digitAt", 0);
        due(0, "digitAt", 63);
    }

    @Says(promise = 37, it = "Throws `IndexOutOfBoundsException` if there is no such digit")
    void digitAtRefusesOtherPlaces() {
        for (int place : outside(0, -1)) {
            refused(INDEX, "digitAt", place);
        }
        busy();
        due(0, "digitAt", 27);
        for (int place : outside(0, 27)) {
            refused(INDEX, "digitAt", place);
        }
        stream(ALL_ONES);
        due(1, "digitAt", 63);
        for (int place : outside(0, 63)) {
            refused(INDEX, "digitAt", place);
        }
        ask("cut", 1);
        refused(INDEX, "digitAt", 63);
    }

    // ---- promise 38: readNumbers

    @Says(promise = 38, it = "Returns how many numbers are read from the stream (without errors).")
    void readNumbersAnswers0To32() {
        due(0, "readNumbers");
        stream(ALL_ZEROS);
        due(0, "readNumbers");
        stream(ALL_ONES);
        due(32, "readNumbers");
        ask("turn", 63);
        due(31, "readNumbers");
    }

    @Says(promise = 38, it = "(without errors)")
    void readNumbersLeavesErrorsOut() {
        stream(times("0", 18) + "11");
        due(0, "readNumbers");
        due(1, "errors");
        stream("11" + times("0", 18) + "11" + "011");
        due(2, "readNumbers");
    }

    // ---- promise 39: readAt

    @Says(promise = 39, it = "Returns a number that is read from the stream.")
    void readAtSkipsErrors() {
        stream("011" + times("0", 18) + "11" + "0011");
        due(2, "readAt", 0);
        due(3, "readAt", 1);
        refused(INDEX, "readAt", 2);
    }

    @Says(promise = 39, it = "`place`: from 0, among those that are read")
    void readAtTakesPlacesFrom0() {
        stream(ALL_ONES);
        due(1, "readAt", 0);
        due(1, "readAt", 31);
        refused(INDEX, "readAt", -1);
        refused(INDEX, "readAt", 32);
    }

    @Says(promise = 39, it = "Returns the number.")
    void readAtAnswers1To6764() {
        works("s1;s6764;s4181");
        due(1, "readAt", 0);
        due(6764, "readAt", 1);
        due(4181, "readAt", 2);
    }

    @Says(promise = 39, it = "Throws `IndexOutOfBoundsException` if there are not so many")
    void readAtRefusesOtherPlaces() {
        for (int place : outside(0, -1)) {
            refused(INDEX, "readAt", place);
        }
        busy();
        due(4, "readAt", 0);
        for (int place : outside(0, 0)) {
            refused(INDEX, "readAt", place);
        }
        stream(times("0", 18) + "11");
        refused(INDEX, "readAt", 0);
        stream(ALL_ZEROS);
        refused(INDEX, "readAt", 0);
    }

    // ---- promise 40: errors

    @Says(promise = 40, it = "Returns the number of errors in the stream.")
    void errorsAnswers0To3() {
        due(0, "errors");
        stream(ALL_ONES);
        due(0, "errors");
        stream(ALL_ZEROS);
        due(0, "errors");
        stream(times(times("0", 18) + "11", 3) + "0000");
        due(3, "errors");
        due(4, "looseDigits");
        stream(times("0", 62) + "11");
        due(1, "errors");
    }

    // ---- promise 41: looseDigits

    @Says(promise = 41, it = "Returns the number of loose digits of the stream.")
    void looseDigitsAnswers0To64() {
        due(0, "looseDigits");
        stream(ALL_ZEROS);
        due(64, "looseDigits");
        stream(times("10", 32));
        due(64, "looseDigits");
        stream(ALL_ONES);
        due(0, "looseDigits");
        ask("turn", 63);
        due(2, "looseDigits");
    }

    @Says(promise = 41, it = "Returns the number of loose digits of the stream.")
    void theLastOf64DigitsHasNoDigitBehindIt() {
        stream("1" + times("0", 62) + "1");
        dueRead(0, 64);
        stream("11" + times("0", 61) + "1");
        dueRead(0, 62, 1);
        stream(times("1", 62) + "01");
        due(31, "readNumbers");
        due(2, "looseDigits");
    }

    // ---- promise 42: readIfTurned

    @Says(promise = 42, it = "Returns how many numbers would be read from the stream, if a digit was turned.")
    void readIfTurnedAnswers0To32() {
        stream(times("1", 63) + "0");
        due(31, "readNumbers");
        due(32, "readIfTurned", 63);
        stream("11");
        due(0, "readIfTurned", 0);
        due(0, "readIfTurned", 1);
        dueStream("11");
    }

    @Says(promise = 42, it = "Returns how many.")
    void readIfTurnedLeavesErrorsOut() {
        stream(times("0", 18) + "11" + "11");
        due(1, "readNumbers");
        due(2, "readIfTurned", 0 + 17);
        due(1, "readIfTurned", 0);
        due(0, "readIfTurned", 19);
        due(0, "readIfTurned", 21);
    }

    @Says(promise = 42, it = "`place`: from 0")
    void readIfTurnedTakesPlacesFrom0() {
        stream("01");
        due(1, "readIfTurned", 0);
        due(0, "readIfTurned", 1);
        refused(INDEX, "readIfTurned", -1);
        refused(INDEX, "readIfTurned", 2);
    }

    @Says(promise = 42, it = "Throws `IndexOutOfBoundsException` if there is no such digit")
    void readIfTurnedRefusesOtherPlaces() {
        for (int place : outside(0, -1)) {
            refused(INDEX, "readIfTurned", place);
        }
        busy();
        for (int place : outside(0, BUSY_STREAM.length() - 1)) {
            refused(INDEX, "readIfTurned", place);
        }
        due(2, "readIfTurned", BUSY_STREAM.length() - 1);
        stream(ALL_ONES);
        due(31, "readIfTurned", 63);
        for (int place : outside(0, 63)) {
            refused(INDEX, "readIfTurned", place);
        }
    }

    // ---- promise 43: codeLength

    @Says(promise = 43, it = "Returns the length of the code of a number.")
    void codeLengthIsOneMoreBehindTheGreatestStep() {
        for (int step = 0; step < 18; step++) {
            int worth = Integer.parseInt(ask("worthOf", step));
            due(step + 2, "codeLength", worth);
            if (step > 0) {
                due(step + 1, "codeLength", worth - 1);
            }
        }
    }

    @Says(promise = 43, it = "`number`: 1 to 6764")
    void codeLengthTakesNumbers1To6764() {
        due(2, "codeLength", 1);
        due(19, "codeLength", 6764);
        refused(ARGUMENT, "codeLength", 0);
        refused(ARGUMENT, "codeLength", 6765);
    }

    @Says(promise = 43, it = "Returns how many digits.")
    void codeLengthAnswers2To19() {
        due(2, "codeLength", 1);
        due(3, "codeLength", 2);
        due(18, "codeLength", 4180);
        due(19, "codeLength", 4181);
        works("s6764;s6764;s6764;s13");
        due(19, "codeLength", 6764);
    }

    @Says(promise = 43, it = "Throws `IllegalArgumentException` if number is out of range")
    void codeLengthRefusesOtherNumbers() {
        for (int number : outside(1, 6764)) {
            refusedByNewAndBusy(ARGUMENT, "codeLength", number);
        }
    }

    // ---- the terms: streams

    @Says(promise = 36, it = "The stream has at most 64 digits, 0 or 1, and is empty at first.")
    void theStreamHas0To64Digits() {
        due(0, "streamLength");
        refused(INDEX, "digitAt", 0);
        stream(times("01", 32));
        due(64, "streamLength");
        refused(STATE, "send", 1);
        due(64, "streamLength");
    }

    @Says(promise = 7, it = "The code of a number, 1 or more, are digits for the steps from 0 to its greatest step, 1 if the step is in the number as it is said, and then one more digit 1.")
    void codesBeginWithTheStep0() {
        String[] codes = {"11", "011", "0011", "1011", "00011"};
        for (int number = 1; number <= codes.length; number++) {
            begin();
            ask("send", number);
            dueStream(codes[number - 1]);
        }
        begin();
        ask("send", 4181);
        dueStream(times("0", 17) + "11");
        begin();
        ask("send", 4180);
        dueStream(times("10", 8) + "11");
    }

    @Says(promise = 7, it = "To send a number means to put its code behind the stream.")
    void codesComeBehindTheStream() {
        stream("00");
        ask("send", 4);
        dueStream("001011");
        begin();
        works("s4181;s4181;s4181;s8");
        ask("cut", 1);
        ask("send", 1);
        dueStream(times("0", 16) + "11" + times(times("0", 17) + "11", 2) + "000011" + "11");
    }

    @Says(promise = 38, it = "Reading goes through the stream from its beginning:")
    void readingBeginsAtTheFirstDigit() {
        stream("0111");
        dueRead(0, 1, 2);
        stream("1110");
        dueRead(0, 2, 1);
        ask("cut", 1);
        dueRead(0, 1, 1);
    }

    @Says(promise = 38, it = "the digits of a number end with the first 1 that has a 1 ahead of it, both in this number;")
    void bothOnesAreInTheNumber() {
        stream("11");
        dueRead(0, 0, 1);
        stream("111");
        dueRead(0, 1, 1);
        stream("1111");
        dueRead(0, 0, 1, 1);
        stream("011101011");
        dueRead(0, 0, 2, 12);
        stream("10");
        dueRead(0, 2);
        stream("01");
        dueRead(0, 2);
    }

    @Says(promise = 38, it = "both in this number;")
    void bothOnesAreInTheNumberBehindAnError() {
        stream(times("0", 18) + "111");
        dueRead(1, 1);
        stream(times("0", 18) + "1111");
        dueRead(1, 0, 1);
    }

    @Says(promise = 39, it = "all but that last digit tell its steps")
    void theLastDigitTellsNoStep() {
        stream("11" + "011" + "1011" + "01");
        dueRead(0, 2, 1, 2, 4);
        stream(times("0", 17) + "11" + times("01", 9) + "1");
        dueRead(0, 0, 4181, 6764);
    }

    @Says(promise = 40, it = "A number with more than 18 digits ahead of its last one is not read, but skipped: it is an error.")
    void eighteenDigitsAreReadAndNineteenAreNot() {
        stream(times("0", 17) + "11");
        dueRead(0, 0, 4181);
        stream(times("0", 18) + "11");
        dueRead(1, 0);
        stream("1" + times("0", 17) + "11");
        dueRead(1, 0);
        ask("cut", 1);
        dueRead(0, 0, 4181);
        stream(times("0", 62) + "11");
        dueRead(1, 0);
        stream(times("10", 31) + "11");
        dueRead(1, 0);
    }

    @Says(promise = 40, it = "A number with more than 18 digits ahead of its last one is not read, but skipped: it is an error.")
    void readingGoesOnBehindAnError() {
        stream(times("0", 18) + "11" + "011" + times("0", 18) + "11" + "0");
        dueRead(2, 1, 2);
    }

    @Says(promise = 40, it = "it is an error")
    void longLooseDigitsAreNoError() {
        stream(times("0", 19));
        dueRead(0, 19);
        stream(times("10", 32));
        dueRead(0, 64);
        stream("11" + times("0", 30) + "1");
        dueRead(0, 31, 1);
    }

    @Says(promise = 41, it = "What is left behind the last number are loose digits.")
    void looseDigitsComeBehindTheLastNumber() {
        begin();
        dueRead(0, 0);
        stream("011" + "1");
        dueRead(0, 1, 2);
        stream("011" + "10");
        dueRead(0, 2, 2);
        stream("011" + "11");
        dueRead(0, 0, 2, 1);
        // The last number may be an error.
        stream("11" + times("0", 18) + "11" + "010");
        dueRead(1, 3, 1);
    }
}
