import java.lang.reflect.InvocationTargetException;
import java.lang.reflect.Method;

/** For each promise of the document: ordinary inputs, the edges that it names, and wrong inputs. */
public final class PromiseTest {
    private static final String INDEX = "throws.IndexOutOfBoundsException";
    private static final String ARGUMENT = "throws.IllegalArgumentException";
    private static final String STATE = "throws.IllegalStateException";

    private final Report report = new Report("PromiseTest");
    private ApartSteps x;
    private int promise;

    public static void main(String[] arguments) throws ReflectiveOperationException {
        PromiseTest test = new PromiseTest();
        for (int promise = 1; promise <= 45; promise++) {
            test.promise = promise;
            test.x = new ApartSteps();
            Method method = PromiseTest.class.getDeclaredMethod("promise" + promise);
            try {
                method.invoke(test);
            } catch (InvocationTargetException e) {
                test.report.due("promise " + promise, e.getCause(), "no exception");
            }
        }
        test.report.end();
    }

    private void due(Object due, String name, int... arguments) {
        report.due("promise " + promise + ": " + Face.told(name, arguments), Face.ask(x, name, arguments), due);
    }

    /** The call throws this, and changes nothing. */
    private void refused(String exception, String name, int... arguments) {
        long before = x.digest();
        due(exception, name, arguments);
        report.due("promise " + promise + ": digest behind " + Face.told(name, arguments), x.digest(), before);
    }

    /** The call saves one state, from which undo brings back what was before it. */
    private void undoable(Object due, String name, int... arguments) {
        x = fresh(x);
        long before = x.digest();
        due(due, name, arguments);
        due(1, "savedStates");
        due(0, "undo");
        report.due("promise " + promise + ": digest behind undo of " + name, x.digest(), before);
        due(due, name, arguments);
    }

    /** The same stalls and stream, without saved states. */
    private ApartSteps fresh(ApartSteps old) {
        while (old.savedStates() > 0) {
            old.undo();
        }
        return old;
    }

    private void type(String text) {
        for (char c : text.toCharArray()) {
            x.append(c);
        }
    }

    private void typeNew(String text) {
        x.clearBuffer();
        type(text);
    }

    /** A new object with this stream, of an even length. */
    private void stream(String digits) {
        x = new ApartSteps();
        while (x.streamLength() < digits.length()) {
            x.send(1);
        }
        for (int i = 0; i < digits.length(); i++) {
            if (x.digitAt(i) != digits.charAt(i) - '0') {
                x.turn(i);
            }
        }
    }

    private void promise1() {
        for (int stall = 0; stall < 6; stall++) {
            due(0, "numberOf", stall);
        }
        due(0, "streamLength");
        due(0, "savedStates");
        due(0, "clearBuffer");
        due(false, "hasStopped");
        due(STATE, "restore");
        due(STATE, "undo");
        due(ARGUMENT, "work");
    }

    private void promise2() {
        due(0, "set", 0, 100);
        due(100, "set", 0, 6764);
        due(6764, "set", 0, 0);
        due(0, "set", 5, 7);
        due(7, "numberOf", 5);
        due(0, "numberOf", 4);
        due(7, "set", 5, 7);
        due(5, "savedStates");
        refused(INDEX, "set", 6, 0);
        refused(INDEX, "set", -1, 6765);
        refused(ARGUMENT, "set", 0, 6765);
        refused(ARGUMENT, "set", 0, -1);
        x = new ApartSteps();
        undoable(0, "set", 3, 12);
    }

    private void promise3() {
        x.set(0, 100);
        x.set(1, 54);
        due(4, "add", 0, 1);
        due(154, "numberOf", 0);
        due(54, "numberOf", 1);
        due(3, "add", 0, 0);
        due(308, "numberOf", 0);
        x.set(2, 4182);
        x.set(3, 2582);
        due(1, "add", 3, 2);
        due(6764, "numberOf", 3);
        due(0, "add", 4, 5);
        x.set(4, 1);
        refused(STATE, "add", 3, 4);
        refused(STATE, "add", 3, 3);
        refused(INDEX, "add", 6, 0);
        refused(INDEX, "add", 3, -1);
        refused(INDEX, "add", 0, 6);
        x = new ApartSteps();
        undoable(0, "add", 0, 1);
    }

    private void promise4() {
        x.set(0, 308);
        x.set(1, 108);
        due(200, "takeAway", 0, 1);
        due(200, "numberOf", 0);
        due(108, "numberOf", 1);
        refused(STATE, "takeAway", 1, 0);
        due(92, "takeAway", 0, 1);
        due(0, "takeAway", 0, 0);
        refused(STATE, "takeAway", 0, 1);
        refused(INDEX, "takeAway", 6, 0);
        refused(INDEX, "takeAway", 0, 6);
        refused(INDEX, "takeAway", 0, -1);
        x = new ApartSteps();
        undoable(0, "takeAway", 2, 3);
    }

    private void promise5() {
        x.set(0, 200);
        due(324, "raise", 0);
        due(324, "numberOf", 0);
        due(0, "raise", 1);
        x.set(1, 1);
        due(2, "raise", 1);
        due(3, "raise", 1);
        x.set(2, 4180);
        due(6764, "raise", 2);
        refused(STATE, "raise", 2);
        x.set(3, 4181);
        refused(STATE, "raise", 3);
        refused(INDEX, "raise", 6);
        refused(INDEX, "raise", -1);
        x = new ApartSteps();
        undoable(0, "raise", 5);
    }

    private void promise6() {
        x.set(0, 324);
        x.set(1, 6760);
        due(274, "pay", 0, 2, 50);
        due(50, "numberOf", 2);
        due(270, "pay", 0, 1, 4);
        due(6764, "numberOf", 1);
        refused(STATE, "pay", 0, 1, 1);
        refused(STATE, "pay", 2, 0, 51);
        due(0, "pay", 2, 0, 50);
        refused(ARGUMENT, "pay", 0, 0, 1);
        refused(ARGUMENT, "pay", 0, 3, 0);
        refused(ARGUMENT, "pay", 0, 1, 6765);
        refused(INDEX, "pay", 6, 6, 0);
        refused(INDEX, "pay", 0, -1, 0);
        due(0, "pay", 1, 5, 6764);
        x = new ApartSteps();
        type("0=9");
        x.work();
        x.undo();
        x.set(0, 9);
        due(4, "pay", 0, 1, 5);
        due(2, "savedStates");
        due(1, "undo");
        due(9, "numberOf", 0);
        due(0, "numberOf", 1);
    }

    private void promise7() {
        due(2, "send", 1);
        due(6, "send", 4);
        int[] digits = {1, 1, 1, 0, 1, 1};
        for (int place = 0; place < digits.length; place++) {
            due(digits[place], "digitAt", place);
        }
        refused(ARGUMENT, "send", 0);
        refused(ARGUMENT, "send", 6765);
        due(25, "send", 6764);
        due(44, "send", 4181);
        due(63, "send", 6764);
        refused(STATE, "send", 1);
        refused(ARGUMENT, "send", -1);
        x.cut(1);
        due(64, "send", 1);
        refused(STATE, "send", 1);
        x = new ApartSteps();
        undoable(3, "send", 2);
    }

    private void promise8() {
        refused(INDEX, "turn", 0);
        x.send(2);
        due(1, "turn", 0);
        due(1, "digitAt", 0);
        due(0, "turn", 0);
        due(0, "turn", 2);
        refused(INDEX, "turn", 3);
        refused(INDEX, "turn", -1);
        x.undo();
        due(1, "digitAt", 2);
        for (int i = 0; i < 30; i++) {
            x.send(1);
        }
        due(63, "streamLength");
        due(0, "turn", 62);
        due(1, "turn", 62);
    }

    private void promise9() {
        refused(STATE, "cut", 1);
        x.send(4);
        x.send(2);
        due(6, "cut", 1);
        due(0, "digitAt", 0);
        due(1, "digitAt", 1);
        due(3, "cut", 3);
        due(0, "digitAt", 0);
        refused(STATE, "cut", 4);
        refused(ARGUMENT, "cut", 0);
        refused(ARGUMENT, "cut", 65);
        due(0, "cut", 3);
        due(0, "streamLength");
        for (int i = 0; i < 32; i++) {
            x.send(1);
        }
        due(0, "cut", 64);
        due(0, "readNumbers");
        due(3, "send", 2);
        due(0, "digitAt", 0);
        due(4, "undo");
        due(3, "undo");
        due(64, "streamLength");
        due(32, "readNumbers");
    }

    private void promise10() {
        due(1, "append", 33);
        due(2, "append", 126);
        refused(ARGUMENT, "append", 32);
        refused(ARGUMENT, "append", 127);
        for (int length = 3; length <= 60; length++) {
            due(length, "append", '0');
        }
        refused(STATE, "append", 33);
        refused(ARGUMENT, "append", 127);
        due(0, "savedStates");
        due(60, "clearBuffer");
    }

    private void promise11() {
        due(0, "clearBuffer");
        type("0=1");
        due(3, "clearBuffer");
        due(0, "clearBuffer");
        due(0, "firstError");
        due(0, "savedStates");
    }

    private void error(int due, String text) {
        typeNew(text);
        report.due("promise 12: firstError() of " + text, Face.ask(x, "firstError"), due);
    }

    private void promise12() {
        error(0, "");
        for (String good : new String[] {"0=0", "5=6764", "0+5", "5-0", "3^", "s1", "s6764", "f0", "f63",
                "0=1;", "0=", "1+", "s", "f", "2", "0^;1^;s12;f7;4-4;3=0", "s676", "f6", "f9", "0=676"}) {
            error(good.length(), good);
        }
        for (String bad : new String[] {"6", "x", "=", ";", "0*", "0=6765", "0=05", "0=00", "0+6", "0+55", "0^^",
                "0^1", "s0", "s6765", "f64", "f00", "f70", "0^;;", "0=-", "0=;", "0+;", "s;", "f;",
                "00", "0=677" + "0", "0=1x", "s12;6", "f63;0=67640", "0s", "-", "^", "0=1+", "0;"}) {
            error(bad.length() - 1, bad);
        }
        error(1, "0x0=1");
        error(1, "s01");
        error(0, "60=1");
        error(4, "0=1;;0=1");
        String sixty = "0=1000;0=1000;0=1000;0=1000;0=1000;0=1000;0=1000;0=1000;0=1;";
        error(60, sixty);
        due(0, "savedStates");
    }

    private void promise13() {
        refused(ARGUMENT, "work");
        for (String bad : new String[] {"0", "0=", "0^;", "s", "f", "0+", "0=1;s", "s0", "0=6765", "x", "0=1x"}) {
            typeNew(bad);
            refused(ARGUMENT, "work");
            due(bad.length(), "clearBuffer");
        }
        type("0=100;1=54;0+1;0-1;1^;s4;f0;2+1");
        due(8, "work");
        due(0, "clearBuffer");
        due(100, "numberOf", 0);
        due(87, "numberOf", 1);
        due(87, "numberOf", 2);
        due(4, "streamLength");
        due(0, "digitAt", 0);
        due(1, "savedStates");
        type("2-1;2-1;3=5");
        due(1, "work");
        due(0, "numberOf", 2);
        due(0, "numberOf", 3);
        due(0, "clearBuffer");
        type("2-1");
        due(0, "work");
        due(3, "savedStates");
        due(2, "undo");
        due(1, "undo");
        due(87, "numberOf", 2);
        due(0, "undo");
        due(0, "numberOf", 0);
        due(0, "clearBuffer");
        type("5=7;5+5;5-5");
        due(3, "work");
        due(0, "numberOf", 5);
    }

    private void promise14() {
        due(false, "hasStopped");
        type("0-1");
        due(1, "work");
        due(false, "hasStopped");
        type("f0");
        due(0, "work");
        due(true, "hasStopped");
        type("0=");
        due(ARGUMENT, "work");
        due(true, "hasStopped");
        x.set(0, 1);
        due(true, "hasStopped");
        type("3");
        due(1, "work");
        due(false, "hasStopped");
        due(3, "undo");
        due(true, "hasStopped");
        due(2, "undo");
        due(true, "hasStopped");
        due(1, "undo");
        due(false, "hasStopped");
    }

    private void promise15() {
        due(STATE, "stoppedPart");
        type("0=1;0^;1-0;1=4");
        due(2, "work");
        due(2, "stoppedPart");
        type("f0");
        due(0, "work");
        due(0, "stoppedPart");
        due(1, "undo");
        due(2, "stoppedPart");
        type("1=4");
        due(1, "work");
        due(STATE, "stoppedPart");
    }

    private void stops(int reason, String text) {
        typeNew(text);
        x.work();
        due(reason, "whyStopped");
    }

    private void promise16() {
        due(STATE, "whyStopped");
        stops(1, "0=6764;1=1;0+1");
        stops(1, "0=3383;0+0");
        stops(1, "0=4181;0^");
        stops(2, "0=1;1=0;1-0");
        stops(3, "s6764;s6764;s6764;s6764");
        due(57, "streamLength");
        stops(4, "f57");
        typeNew("f56");
        due(1, "work");
        due(STATE, "whyStopped");
        stops(3, "s34");
        typeNew("s13");
        due(1, "work");
        due(64, "streamLength");
        due(STATE, "whyStopped");
    }

    private void promise17() {
        refused(STATE, "undo");
        for (int i = 1; i <= 7; i++) {
            x.set(0, i);
        }
        due(5, "savedStates");
        type("0=");
        for (int i = 6; i >= 2; i--) {
            due(i - 2, "undo");
            due(i, "numberOf", 0);
        }
        due(2, "firstError");
        refused(STATE, "undo");
        due(2, "numberOf", 0);
    }

    private void promise18() {
        x.set(0, 5);
        x.set(1, 6);
        due(11, "keep");
        due(2, "savedStates");
        x.set(0, 0);
        due(6, "keep");
        x.set(1, 0);
        due(6, "restore");
        due(0, "numberOf", 0);
        due(6, "numberOf", 1);
    }

    private void promise19() {
        refused(STATE, "restore");
        x.set(0, 5);
        x.send(3);
        type("f63");
        x.work();
        x.keep();
        x.cut(2);
        x.set(0, 9);
        type("0=1");
        x.work();
        due(false, "hasStopped");
        type("0=");
        due(5, "restore");
        due(4, "streamLength");
        due(0, "digitAt", 0);
        due(true, "hasStopped");
        due(4, "whyStopped");
        due(2, "clearBuffer");
        due(5, "savedStates");
        due(4, "undo");
        due(1, "numberOf", 0);
        due(false, "hasStopped");
        due(2, "streamLength");
        x.set(4, 1);
        due(5, "restore");
        due(0, "numberOf", 4);
        due(5, "restore");
        x = new ApartSteps();
        x.keep();
        due(0, "savedStates");
        due(0, "restore");
        due(1, "savedStates");
    }

    private void promise20() {
        for (int i = 1; i <= 7; i++) {
            x.send(1);
            due(Math.min(i, 5), "savedStates");
        }
        x.keep();
        x.say(9);
        x.append('s');
        x.clearBuffer();
        due(5, "savedStates");
        x.undo();
        due(4, "savedStates");
    }

    private void promise21() {
        int[] worths = {1, 2, 3, 5, 8, 13, 21, 34, 55, 89, 144, 233, 377, 610, 987, 1597, 2584, 4181};
        for (int step = 0; step < 18; step++) {
            due(worths[step], "worthOf", step);
        }
        refused(INDEX, "worthOf", 18);
        refused(INDEX, "worthOf", -1);
    }

    private void promise22() {
        due(0, "worthOfSet", 0);
        due(4, "worthOfSet", 5);
        due(3, "worthOfSet", 3);
        due(4181, "worthOfSet", 131072);
        due(10944, "worthOfSet", 262143);
        refused(ARGUMENT, "worthOfSet", 262144);
        refused(ARGUMENT, "worthOfSet", -1);
    }

    private void promise23() {
        sayBy("say");
    }

    private void promise24() {
        sayBy("sayByCounting");
    }

    private void sayBy(String name) {
        int[] numbers = {0, 1, 2, 3, 4, 5, 10, 54, 100, 4180, 4181, 6764};
        int[] marks = {0, 1, 2, 4, 5, 8, 18, 170, 532, 87381, 131072, 174762};
        for (int i = 0; i < numbers.length; i++) {
            due(marks[i], name, numbers[i]);
        }
        refused(ARGUMENT, name, -1);
        refused(ARGUMENT, name, 6765);
    }

    private void promise25() {
        int[] numbers = {0, 1, 2, 3, 4, 5, 8, 10, 54, 100, 4181, 6764};
        int[] marks = {0, 1, 2, 3, 5, 6, 11, 14, 170, 367, 87382, 174762};
        for (int i = 0; i < numbers.length; i++) {
            due(marks[i], "fullSet", numbers[i]);
        }
        refused(ARGUMENT, "fullSet", -1);
        refused(ARGUMENT, "fullSet", 6765);
    }

    private void promise26() {
        waysBy("ways");
    }

    private void promise27() {
        waysBy("waysByGaps");
    }

    private void waysBy(String name) {
        int[] numbers = {0, 1, 2, 3, 4, 5, 8, 10, 11, 54, 100, 987, 4181, 6764};
        int[] ways = {1, 1, 1, 2, 1, 2, 3, 2, 3, 1, 9, 8, 9, 1};
        for (int i = 0; i < numbers.length; i++) {
            due(ways[i], name, numbers[i]);
        }
        refused(ARGUMENT, name, -1);
        refused(ARGUMENT, name, 6765);
    }

    private void promise28() {
        for (int tribe = 0; tribe < 3; tribe++) {
            due(0, "spokenLength", tribe, 0);
            due(1, "spokenLength", tribe, 4181);
            due(3, "spokenLength", tribe, 100);
            due(9, "spokenLength", tribe, 6764);
            refused(ARGUMENT, "spokenLength", tribe, 6765);
            refused(ARGUMENT, "spokenLength", tribe, -1);
        }
        refused(INDEX, "spokenLength", 3, 0);
        refused(INDEX, "spokenLength", -1, 6765);
    }

    private void promise29() {
        int[][] words = {{9, 4, 2}, {2, 4, 9}, {2, 2, 5}};
        for (int tribe = 0; tribe < 3; tribe++) {
            for (int place = 0; place < 3; place++) {
                due(words[tribe][place], "spokenAt", tribe, 100, place);
            }
            refused(ARGUMENT, "spokenAt", tribe, 100, 3);
            refused(ARGUMENT, "spokenAt", tribe, 100, -1);
            refused(ARGUMENT, "spokenAt", tribe, 0, 0);
            refused(ARGUMENT, "spokenAt", tribe, 6765, 0);
            refused(ARGUMENT, "spokenAt", tribe, -1, 0);
        }
        due(1, "spokenAt", 0, 6764, 8);
        due(17, "spokenAt", 1, 6764, 8);
        due(2, "spokenAt", 2, 6764, 8);
        due(0, "spokenAt", 2, 1, 0);
        refused(INDEX, "spokenAt", 3, 0, 0);
        refused(INDEX, "spokenAt", -1, 6765, 0);
    }

    private void promise30() {
        for (int stall = 0; stall < 6; stall++) {
            x.set(stall, 1000 + stall);
        }
        for (int stall = 0; stall < 6; stall++) {
            due(1000 + stall, "numberOf", stall);
        }
        refused(INDEX, "numberOf", 6);
        refused(INDEX, "numberOf", -1);
    }

    private void promise31() {
        due(0, "stepsOf", 0);
        x.set(0, 100);
        x.set(5, 6764);
        due(3, "stepsOf", 0);
        due(9, "stepsOf", 5);
        refused(INDEX, "stepsOf", 6);
        refused(INDEX, "stepsOf", -1);
    }

    private void promise32() {
        due(0, "total");
        for (int stall = 0; stall < 6; stall++) {
            x.set(stall, 6764);
            due(6764 * (stall + 1), "total");
        }
    }

    private void promise33() {
        due(0, "richest");
        x.set(5, 1);
        due(5, "richest");
        x.set(3, 1);
        due(3, "richest");
        x.set(4, 2);
        due(4, "richest");
        x.set(0, 2);
        due(0, "richest");
    }

    private void promise34() {
        due(0, "sumByCarries", 2, 2);
        x.set(0, 100);
        x.set(1, 54);
        due(1042, "sumByCarries", 0, 1);
        due(1042, "sumByCarries", 1, 0);
        x.set(2, 6764);
        x.set(3, 1);
        due(262144, "sumByCarries", 2, 3);
        // 13528 is 10946 + 2582, and the last one is 1597 + 610 + 233 + 89 + 34 + 13 + 5 + 1.
        due(524288 + 32768 + 8192 + 2048 + 512 + 128 + 32 + 8 + 1, "sumByCarries", 2, 2);
        refused(INDEX, "sumByCarries", 6, 0);
        refused(INDEX, "sumByCarries", 0, 6);
        refused(INDEX, "sumByCarries", -1, 0);
        refused(INDEX, "sumByCarries", 0, -1);
    }

    private void promise35() {
        due(0, "carries", 2, 2);
        x.set(0, 100);
        x.set(1, 54);
        due(4, "carries", 0, 1);
        due(4, "carries", 1, 0);
        x.set(1, 154);
        due(3, "carries", 1, 1);
        x.set(2, 6764);
        x.set(3, 4182);
        due(19, "carries", 2, 3);
        refused(INDEX, "carries", 6, 0);
        refused(INDEX, "carries", 0, 6);
        refused(INDEX, "carries", -1, 0);
        refused(INDEX, "carries", 0, -1);
    }

    private void promise36() {
        due(0, "streamLength");
        x.send(6764);
        due(19, "streamLength");
        x.cut(4);
        due(15, "streamLength");
    }

    private void promise37() {
        refused(INDEX, "digitAt", 0);
        x.send(2);
        due(0, "digitAt", 0);
        due(1, "digitAt", 1);
        due(1, "digitAt", 2);
        refused(INDEX, "digitAt", 3);
        refused(INDEX, "digitAt", -1);
    }

    private void promise38() {
        due(0, "readNumbers");
        x.send(7);
        x.send(6764);
        x.send(1);
        due(3, "readNumbers");
        // The last 1 has a 1 ahead of it, but that one ends the number ahead.
        stream("010111");
        due(1, "readNumbers");
        stream("00000000000000000011" + "0011");
        due(1, "readNumbers");
        stream("000000000000000011" + "0011");
        due(2, "readNumbers");
    }

    private void promise39() {
        refused(INDEX, "readAt", 0);
        x.send(7);
        x.send(6764);
        x.send(1);
        due(7, "readAt", 0);
        due(6764, "readAt", 1);
        due(1, "readAt", 2);
        refused(INDEX, "readAt", 3);
        refused(INDEX, "readAt", -1);
        stream("1000000000000000000000000000" + "11" + "0011" + "1011");
        due(3, "readAt", 0);
        due(4, "readAt", 1);
        refused(INDEX, "readAt", 2);
    }

    private void promise40() {
        due(0, "errors");
        x.send(4181);
        due(0, "errors");
        stream("00000000000000000011");
        due(1, "errors");
        due(0, "readNumbers");
        due(0, "looseDigits");
        x.cut(1);
        due(0, "errors");
        due(4181, "readAt", 0);
        stream("00000000000000000000");
        due(0, "errors");
        stream("00000000000000000000110000000000000000000011");
        due(2, "errors");
    }

    private void promise41() {
        due(0, "looseDigits");
        x.send(7);
        due(0, "looseDigits");
        stream("001110");
        due(2, "looseDigits");
        stream("101010");
        due(6, "looseDigits");
        stream("00000000000000000000111010");
        due(4, "looseDigits");
    }

    private void promise42() {
        refused(INDEX, "readIfTurned", 0);
        stream("001011");
        due(1, "readNumbers");
        long before = x.digest();
        due(1, "readIfTurned", 0);
        due(2, "readIfTurned", 3);
        due(0, "readIfTurned", 5);
        due(2, "readIfTurned", 1);
        report.due("promise 42: digest", x.digest(), before);
        refused(INDEX, "readIfTurned", 6);
        refused(INDEX, "readIfTurned", -1);
        stream("1111");
        due(1, "readIfTurned", 0);
        stream("0101");
        due(1, "readIfTurned", 2);
    }

    private void promise43() {
        int[] numbers = {1, 2, 3, 4, 5, 100, 4180, 4181, 6764};
        int[] lengths = {2, 3, 4, 4, 5, 11, 18, 19, 19};
        for (int i = 0; i < numbers.length; i++) {
            due(lengths[i], "codeLength", numbers[i]);
        }
        refused(ARGUMENT, "codeLength", 0);
        refused(ARGUMENT, "codeLength", 6765);
    }

    private void promise44() {
        due(1.0, "sparseShare");
        x.set(0, 3);
        due(0.5, "sparseShare");
        x.set(1, 100);
        due(4.0 / 9.0, "sparseShare");
        x.set(0, 6764);
        x.set(1, 0);
        due(1.0, "sparseShare");
    }

    private void promise45() {
        Model model = new Model();
        due(model.digest(), "digest");
        String[] calls = {"set 0 100", "set 1 6764", "set 5 3", "send 6764", "send 1", "turn 5", "keep", "append 48",
            "append 94", "append 59", "append 102", "append 57", "append 57", "clearBuffer", "append 48",
            "append 94", "append 59", "append 102", "append 54", "append 51", "work", "append 115", "cut 3", "undo"};
        for (String call : calls) {
            String[] words = call.split(" ");
            int[] arguments = new int[words.length - 1];
            for (int i = 0; i < arguments.length; i++) {
                arguments[i] = Integer.parseInt(words[i + 1]);
            }
            due(Face.ask(model, words[0], arguments), words[0], arguments);
            due(model.digest(), "digest");
        }
        due(true, "hasStopped");
    }
}
