/** The boundary cases of the promises 10 to 16: texts. */
public final class TextBoundsTest extends Bounds {
    private static final String SIXTY = times("0=1000;", 8) + "0=1;";

    public static void main(String[] arguments) throws ReflectiveOperationException {
        run(TextBoundsTest.class);
    }

    private void dueError(int due, String text) {
        begin();
        type(text);
        same("firstError of " + text, ask("firstError"), due);
    }

    private void dueGood(String text) {
        dueError(text.length(), text);
    }

    /** Behind this text, these characters alone are no syntax error. */
    private void dueNext(String text, String good) {
        dueGood(text);
        for (int code = 33; code <= 126; code++) {
            boolean isGood = good.indexOf(code) >= 0;
            dueError(isGood ? text.length() + 1 : text.length(), text + (char) code);
        }
    }

    private void dueComplete(String text) {
        begin();
        type("0=6764;1=6764;2=6764;3=6764;4=6764;5=6764");
        ask("work");
        type(text);
        boolean works = !ask("work").startsWith("throws");
        same("whether " + text + " is complete", works, true);
        due(0, "clearBuffer");
    }

    private void dueIncomplete(String text) {
        begin();
        type(text);
        refused(ARGUMENT, "work");
        due(text.length(), "clearBuffer");
    }

    private void dueStop(int done, int part, int reason) {
        due(done, "work");
        due(true, "hasStopped");
        due(part, "stoppedPart");
        due(reason, "whyStopped");
    }

    private void dueNoStop(int done) {
        due(done, "work");
        due(false, "hasStopped");
        refused(STATE, "stoppedPart");
        refused(STATE, "whyStopped");
    }

    // ---- promise 10: append

    @Says(promise = 10, it = "Appends a character to the buffer.")
    void appendPutsTheCharacterBehindTheBuffer() {
        type("s1");
        due(3, "append", '2');
        due(1, "work");
        due(12, "readAt", 0);
    }

    @Says(promise = 10, it = "`code`: the character code, 33 to 126")
    void appendTakes33To126() {
        refused(ARGUMENT, "append", 32);
        refused(ARGUMENT, "append", 127);
        due(1, "append", 33);
        due(2, "append", 126);
    }

    @Says(promise = 10, it = "Returns the new length of the buffer.")
    void appendAnswers1To60() {
        for (int length = 1; length <= 60; length++) {
            due(length, "append", 33 + length);
        }
        due(60, "clearBuffer");
        due(1, "append", '0');
    }

    @Says(promise = 10, it = "Throws `IllegalArgumentException` if code is not 33 to 126")
    void appendRefusesOtherCodes() {
        for (int code : new int[] {32, 127, 0, -1, 10, 255, 256 + 48, 65536 + 48, Integer.MIN_VALUE, Integer.MAX_VALUE}) {
            refusedByNewAndBusy(ARGUMENT, "append", code);
        }
    }

    @Says(promise = 10, it = "Throws `IllegalStateException` if the buffer has 60 characters")
    void appendRefusesThe61stCharacter() {
        type(SIXTY.substring(0, 59));
        due(60, "append", ';');
        refused(STATE, "append", '0');
        refused(STATE, "append", 33);
        refused(STATE, "append", 126);
        due(60, "firstError");
        due(60, "clearBuffer");
        due(1, "append", '0');
    }

    @Says(promise = 10, it = "If several exceptions apply, the one that is named first in the throws clause is thrown.")
    void appendRefusesTheCodeFirst() {
        type(SIXTY);
        for (int code : outside(33, 126)) {
            refused(ARGUMENT, "append", code);
        }
        refused(STATE, "append", 33);
    }

    @Says(promise = 10, it = "The buffer has at most 60 characters.")
    void theBufferHas0To60Characters() {
        due(0, "clearBuffer");
        type(times("f", 60));
        refused(STATE, "append", 'f');
        due(60, "clearBuffer");
        due(0, "clearBuffer");
    }

    // ---- promise 11: clearBuffer

    @Says(promise = 11, it = "Clears the buffer.")
    void clearBufferLeavesNoCharacter() {
        type("x=1");
        due(0, "firstError");
        due(3, "clearBuffer");
        due(0, "firstError");
        type("0=1");
        due(3, "firstError");
        due(1, "work");
    }

    @Says(promise = 11, it = "Clears the buffer.")
    void clearBufferChangesTheBufferAlone() {
        busy();
        ask("clearBuffer");
        unchanged("clearBuffer");
        due(3, "savedStates");
        due(true, "hasStopped");
        due(28, "streamLength");
    }

    @Says(promise = 11, it = "Returns the length that it had.")
    void clearBufferAnswers0To60() {
        due(0, "clearBuffer");
        type("0");
        due(1, "clearBuffer");
        due(0, "clearBuffer");
        type(SIXTY);
        due(60, "clearBuffer");
        type("0=1");
        ask("work");
        due(0, "clearBuffer");
    }

    // ---- promise 12: firstError

    @Says(promise = 12, it = "Finds the first syntax error of the buffer.")
    void firstErrorStaysTheFirstOne() {
        dueError(0, "x");
        dueError(0, "xx0=1");
        dueError(1, "0x0=1");
        dueError(4, "0=1;;0=1");
        dueError(2, "0+60+6");
        dueError(59, SIXTY.substring(0, 59) + "x");
    }

    @Says(promise = 12, it = "Returns the index of the first character that is a syntax error;")
    void firstErrorAnswersFrom0On() {
        dueError(0, ";");
        dueError(1, "0;");
        dueError(2, "0=;");
        dueError(3, "0^;;");
    }

    @Says(promise = 12, it = "the length of the buffer if there is none.")
    void firstErrorAnswersTheLength0To60() {
        due(0, "firstError");
        dueGood("0");
        dueGood("0=1;");
        dueGood(SIXTY);
        typeNew("0=");
        unchanged("firstError");
    }

    // ---- promise 13: work

    @Says(promise = 13, it = "Does what the buffer tells, part by part, up to the first part that is not possible, and clears the buffer.")
    void workDoesThePartsAheadOfTheFirstThatIsNotPossible() {
        type("0=3;0^;1+0;2-1;3=7;4=8");
        dueStop(3, 3, 2);
        due(5, "numberOf", 0);
        due(5, "numberOf", 1);
        due(0, "numberOf", 2);
        due(0, "numberOf", 3);
        due(0, "numberOf", 4);
        due(0, "clearBuffer");
    }

    @Says(promise = 13, it = "up to the first part that is not possible")
    void workDoesAllPartsIfAllArePossible() {
        type("0=3;1+0;1-0;s5;f0;2^");
        dueNoStop(6);
        due(3, "numberOf", 0);
        due(0, "numberOf", 1);
        due(5, "streamLength");
        due(1, "digitAt", 0);
    }

    @Says(promise = 13, it = "and clears the buffer")
    void workClearsTheBufferAlsoIfItStopsAtOnce() {
        type("f0");
        dueStop(0, 0, 4);
        due(0, "clearBuffer");
        type(SIXTY.substring(0, 59));
        dueNoStop(9);
        due(0, "clearBuffer");
    }

    @Says(promise = 13, it = "Undoable, as one call, also if nothing is done.")
    void workIsUndoneAsOneCall() {
        works("5=9");
        type("0=3;1=4;s5;f0;5-5;1^");
        due(6, "work");
        due(2, "savedStates");
        due(1, "undo");
        due(0, "numberOf", 0);
        due(0, "numberOf", 1);
        due(9, "numberOf", 5);
        due(0, "streamLength");
        due(0, "clearBuffer");
    }

    @Says(promise = 13, it = "also if nothing is done")
    void workSavesAStateIfItDoesNothing() {
        type("0-1");
        due(1, "work");
        due(1, "savedStates");
        type("f0");
        due(0, "work");
        due(2, "savedStates");
        due(true, "hasStopped");
        due(1, "undo");
        due(false, "hasStopped");
        due(0, "undo");
    }

    @Says(promise = 13, it = "Returns how many parts are done.")
    void workAnswers0To20() {
        type("f0");
        due(0, "work");
        type("0^");
        due(1, "work");
        type(times("0^;", 19) + "0^");
        due(20, "work");
        type(times("0^;", 19) + "f0");
        due(19, "work");
    }

    @Says(promise = 13, it = "Throws `IllegalArgumentException` if the buffer is not complete works as a text (the buffer stays)")
    void workRefusesTextsThatAreNotComplete() {
        for (String text : new String[] {"", "0", "0=", "0+", "0-", "s", "f", "0^;", "0=1;", "0=1;5", "0^;s", SIXTY}) {
            dueIncomplete(text);
        }
    }

    @Says(promise = 13, it = "(the buffer stays)")
    void workRefusesTextsWithAnErrorAndDoesNoPart() {
        for (String text : new String[] {"x", ";", ";0=1", "0=1;;1=2", "0=1;x", "0=1;s0", "0=1;s6765", "0=6765", "0=1;f64",
            "0=01", "0=1x", "0=1;1+6", "0=1;6=1", "0^0", "0=1;" + times("0", 56)}) {
            dueIncomplete(text);
            due(0, "numberOf", 0);
            due(0, "savedStates");
        }
    }

    @Says(promise = 13, it = "(the buffer stays)")
    void workGoesOnBehindARefusedCall() {
        busy();
        refused(ARGUMENT, "work");
        type("=5");
        due(2, "work");
        due(12, "numberOf", 0);
        due(5, "numberOf", 3);
    }

    // ---- promise 14: hasStopped

    @Says(promise = 14, it = "Returns whether the latest call of work() that did not throw an exception stopped ahead of the end of its text;")
    void hasStoppedTellsOfTheLatestCall() {
        type("f0;0=1");
        due(0, "work");
        due(true, "hasStopped");
        type("0=2");
        due(1, "work");
        due(false, "hasStopped");
    }

    @Says(promise = 14, it = "ahead of the end of its text")
    void hasStoppedAlsoAtTheLastPart() {
        type("0=1;f0");
        due(1, "work");
        due(true, "hasStopped");
    }

    @Says(promise = 14, it = "that did not throw an exception")
    void hasStoppedIsAsBeforeBehindARefusedCall() {
        type("f0");
        due(0, "work");
        refused(ARGUMENT, "work");
        due(true, "hasStopped");
        type("0=1");
        due(1, "work");
        type("f0;");
        refused(ARGUMENT, "work");
        due(false, "hasStopped");
    }

    @Says(promise = 14, it = "false without such a call.")
    void hasStoppedIsFalseWithoutACall() {
        due(false, "hasStopped");
        refused(ARGUMENT, "work");
        ask("set", 1, 1);
        refused(STATE, "takeAway", 0, 1);
        due(false, "hasStopped");
        refused(INDEX, "turn", 0);
        due(false, "hasStopped");
    }

    @Says(promise = 14, it = "the latest call of work()")
    void otherCallsLeaveTheStop() {
        busy();
        ask("set", 0, 1);
        ask("send", 1);
        ask("cut", 1);
        ask("clearBuffer");
        ask("keep");
        due(true, "hasStopped");
        due(6, "stoppedPart");
        due(2, "whyStopped");
    }

    // ---- promise 15: stoppedPart

    @Says(promise = 15, it = "Returns the number of the part at which the latest call of work() stopped.")
    void stoppedPartTellsOfTheLatestStop() {
        works("0=1;1=2;f0");
        due(2, "stoppedPart");
        works("f0");
        due(0, "stoppedPart");
        works("0=1;1-0;1-0;1-0");
        due(3, "stoppedPart");
    }

    @Says(promise = 15, it = "Returns the number, from 0.")
    void stoppedPartAnswers0To19() {
        works("f0");
        due(0, "stoppedPart");
        works(times("0^;", 19) + "1^");
        due(STATE, "stoppedPart");
        typeNew("0=1");
        ask("work");
        type(times("1^;", 19) + "1-0");
        due(19, "work");
        due(19, "stoppedPart");
    }

    @Says(promise = 15, it = "Throws `IllegalStateException` if it did not stop")
    void stoppedPartRefusesWithoutAStop() {
        refused(STATE, "stoppedPart");
        works("f0");
        due(0, "stoppedPart");
        works("0=1;0-0");
        refused(STATE, "stoppedPart");
        ask("undo");
        due(0, "stoppedPart");
        ask("undo");
        refused(STATE, "stoppedPart");
    }

    // ---- promise 16: whyStopped

    @Says(promise = 16, it = "Tells why the latest call of work() stopped.")
    void whyStoppedTellsOfTheLatestStop() {
        works("f0");
        due(4, "whyStopped");
        works("0=1;1-0");
        due(2, "whyStopped");
        ask("undo");
        due(4, "whyStopped");
    }

    @Says(promise = 16, it = "Returns 1: a number would have been above 6764")
    void whyStoppedSays1ForSumsAbove6764() {
        type("0=6763;1=1;0+1");
        dueNoStop(3);
        due(6764, "numberOf", 0);
        type("0+1");
        dueStop(0, 0, 1);
        due(6764, "numberOf", 0);
        type("2=3382;2+2");
        dueNoStop(2);
        due(6764, "numberOf", 2);
        type("2=3383;2+2");
        dueStop(1, 1, 1);
        due(3383, "numberOf", 2);
        type("0+0");
        dueStop(0, 0, 1);
    }

    @Says(promise = 16, it = "(also by raising the step 17)")
    void whyStoppedSays1ForRaisingTheStep17() {
        type("0=4180;0^");
        dueNoStop(2);
        due(6764, "numberOf", 0);
        type("0^");
        dueStop(0, 0, 1);
        type("1=4181;1^");
        dueStop(1, 1, 1);
        due(4181, "numberOf", 1);
    }

    @Says(promise = 16, it = "2: it would have been below 0;")
    void whyStoppedSays2ForDifferencesBelow0() {
        type("0=54;1=54;0-1");
        dueNoStop(3);
        due(0, "numberOf", 0);
        type("0=53;0-1");
        dueStop(1, 1, 2);
        due(53, "numberOf", 0);
        type("2=6764;3-2");
        dueStop(1, 1, 2);
        type("3-4;3-3");
        dueNoStop(2);
    }

    @Says(promise = 16, it = "3: the stream would have had more than 64 digits;")
    void whyStoppedSays3ForAStreamThatIsTooLong() {
        type("s6764;s6764;s6764;s5;s2");
        dueStop(4, 4, 3);
        due(62, "streamLength");
        type("s1");
        dueNoStop(1);
        due(64, "streamLength");
        type("s1");
        dueStop(0, 0, 3);
        due(64, "streamLength");
    }

    @Says(promise = 16, it = "4: there was no such digit.")
    void whyStoppedSays4ForPlacesBehindTheStream() {
        type("f0");
        dueStop(0, 0, 4);
        type("s2;f2;f3");
        dueStop(2, 2, 4);
        due(0, "digitAt", 2);
        type("s6764;s6764;s6764;s1;f62;f63");
        dueStop(4, 4, 4);
    }

    @Says(promise = 16, it = "4: there was no such digit.")
    void whyStoppedSays4ForThePlace63Of63Digits() {
        type("s6764;s6764;s6764;s8;f62;f63");
        dueStop(5, 5, 4);
        due(63, "streamLength");
        due(0, "digitAt", 62);
        ask("cut", 63);
        type("s6764;s6764;s6764;s13;f63");
        dueNoStop(5);
        due(0, "digitAt", 63);
    }

    @Says(promise = 16, it = "Throws `IllegalStateException` if it did not stop")
    void whyStoppedRefusesWithoutAStop() {
        refused(STATE, "whyStopped");
        works("f0");
        due(4, "whyStopped");
        works("0=1");
        refused(STATE, "whyStopped");
        ask("undo");
        ask("undo");
        refused(STATE, "whyStopped");
    }

    // ---- the terms: input text

    @Says(promise = 13, it = "Works as a text are one or more parts with \";\" between them:")
    void partsStandBetweenSemicolons() {
        dueNext("0^", ";");
        dueNext("0^;", "012345sf");
        dueComplete("0=1");
        dueComplete("0=1;1=2");
        dueIncomplete("");
        dueIncomplete("0=1;");
        dueIncomplete(";");
    }

    @Says(promise = 12, it = "a stall, 0 to 5, and then")
    void partsBeginWithTheStalls0To5() {
        dueNext("", "012345sf");
        for (String stall : new String[] {"0", "5"}) {
            dueNext(stall, "=+-^");
            dueComplete(stall + "=1");
            dueComplete(stall + "^");
        }
        dueError(0, "6=1");
        dueError(0, "/=1");
    }

    @Says(promise = 13, it = "\"=\" and a number, 0 to 6764 (it has this number)")
    void numbersFrom0To6764AreGiven() {
        works("4=6764");
        due(6764, "numberOf", 4);
        works("4=0");
        due(0, "numberOf", 4);
        dueError(5, "4=6765");
        dueNext("4=676", "01234;");
        dueNext("4=675", "0123456789;");
        dueNext("4=677", ";");
        dueNext("4=67", "0123456789;");
        dueNext("4=68", "0123456789;");
        dueNext("4=6", "0123456789;");
        dueNext("4=6764", ";");
        dueNext("4=1000", ";");
        dueNext("4=999", ";");
        dueNext("4=", "0123456789");
        dueIncomplete("4=6765");
        dueIncomplete("4=");
        dueIncomplete("4=10000");
    }

    @Says(promise = 13, it = "\"+\" and a stall (that one is added)")
    void theStalls0To5AreAdded() {
        dueNext("2+", "012345");
        dueNext("2+0", ";");
        dueNext("2+5", ";");
        works("0=1;5=2;2+0;2+5;5+2");
        due(3, "numberOf", 2);
        due(5, "numberOf", 5);
    }

    @Says(promise = 13, it = "\"-\" and a stall (that one is taken away)")
    void theStalls0To5AreTakenAway() {
        dueNext("2-", "012345");
        dueNext("2-0", ";");
        dueNext("2-5", ";");
        works("0=1;5=2;2=9;2-0;2-5");
        due(6, "numberOf", 2);
        due(1, "numberOf", 0);
        due(2, "numberOf", 5);
    }

    @Says(promise = 13, it = "or \"^\" (it is raised);")
    void theStalls0To5AreRaised() {
        dueNext("0^", ";");
        works("0=1;5=4180;0^;5^");
        due(2, "numberOf", 0);
        due(6764, "numberOf", 5);
    }

    @Says(promise = 13, it = "\"s\" and a number, 1 to 6764 (it is sent);")
    void numbersFrom1To6764AreSent() {
        dueNext("s", "123456789");
        dueNext("s1", "0123456789;");
        dueNext("s676", "01234;");
        dueNext("s677", ";");
        dueNext("s6764", ";");
        works("s1;s6764");
        due(1, "readAt", 0);
        due(6764, "readAt", 1);
        dueIncomplete("s0");
        dueIncomplete("s6765");
    }

    @Says(promise = 13, it = "or \"f\" and a digit's place, 0 to 63 (it is turned).")
    void thePlaces0To63AreTurned() {
        dueNext("f", "0123456789");
        dueNext("f0", ";");
        dueNext("f5", "0123456789;");
        dueNext("f6", "0123;");
        dueNext("f7", ";");
        dueNext("f9", ";");
        dueNext("f63", ";");
        dueNext("f10", ";");
        works("s6764;s6764;s6764;s13;f0;f63");
        due(1, "digitAt", 0);
        due(0, "digitAt", 63);
        dueIncomplete("f64");
        dueIncomplete("f-1");
    }

    @Says(promise = 12, it = "Numbers have no leading zeros.")
    void numbersHaveNoLeadingZeros() {
        dueNext("0=0", ";");
        dueNext("f0", ";");
        dueError(1, "s0");
        dueError(1, "s01");
        dueError(3, "0=00");
        dueError(3, "0=01");
        dueError(2, "f00");
        dueError(2, "f01");
        dueComplete("0=0");
        dueComplete("0=10");
        dueComplete("0=100");
    }

    @Says(promise = 12, it = "The buffer is read from left to right; a character is a syntax error if no works as a text, of any length, begin with the characters before it and this character.")
    void aTextOfAnyLengthGoesOnBehind60Characters() {
        dueGood(SIXTY);
        dueGood(times("0=1000;", 8) + "0=10");
        dueGood(times("0=1000;", 8) + "0^;5");
        dueGood(times("0=1000;", 8) + "0^;s");
        dueGood(times("0=1000;", 8) + "1^;f");
        dueGood(times("0=1000;", 8) + "0+5;");
        dueError(59, times("0=1000;", 8) + "0=1x");
        dueError(59, times("0=1000;", 8) + "0^;6");
        dueIncomplete(SIXTY);
    }

    @Says(promise = 12, it = "begin with the characters before it and this character")
    void whatMayStillBecomeWorksIsNoError() {
        for (String text : new String[] {"0", "0=", "0=6", "0=67", "0=676", "0+", "0-", "s", "s6", "f", "f6", "0^;"}) {
            dueGood(text);
        }
    }
}
