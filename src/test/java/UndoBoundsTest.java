/** The boundary cases of the promises 17 to 20, and of all that is undoable: undo, the snapshot. */
public final class UndoBoundsTest extends Bounds {
    public static void main(String[] arguments) throws ReflectiveOperationException {
        run(UndoBoundsTest.class);
    }

    private void dueNumbers(int... numbers) {
        for (int stall = 0; stall < numbers.length; stall++) {
            due(numbers[stall], "numberOf", stall);
        }
    }

    // ---- promise 17: undo

    @Says(promise = 17, it = "Restores the latest saved state, and drops it.")
    void undoGoesBackOneStateAtATime() {
        ask("set", 0, 1);
        ask("set", 0, 2);
        due(1, "undo");
        dueNumbers(1);
        due(0, "undo");
        dueNumbers(0);
        refused(STATE, "undo");
    }

    @Says(promise = 17, it = "Restores the latest saved state, and drops it.")
    void undoIsNoUndoableCallItself() {
        ask("set", 0, 1);
        ask("undo");
        due(0, "savedStates");
        refused(STATE, "undo");
        ask("set", 1, 5);
        due(1, "savedStates");
        due(0, "undo");
        dueNumbers(0, 0);
    }

    @Says(promise = 17, it = "Returns how many saved states are left.")
    void undoAnswers4To0() {
        for (int i = 1; i <= 5; i++) {
            ask("set", 0, i);
        }
        for (int left = 4; left >= 0; left--) {
            due(left, "undo");
            due(left, "savedStates");
        }
        refused(STATE, "undo");
    }

    @Says(promise = 17, it = "Throws `IllegalStateException` if there is none")
    void undoRefusesWithoutASavedState() {
        refused(STATE, "undo");
        type("f0;x");
        ask("keep");
        refused(STATE, "undo");
        refused(ARGUMENT, "work");
        refused(STATE, "undo");
        refused(ARGUMENT, "set", 0, -1);
        refused(STATE, "undo");
        works("f0");
        due(0, "undo");
        refused(STATE, "undo");
        begin();
        busyWithoutSavedStates();
        due(0, "savedStates");
        refused(STATE, "undo");
        dueNumbers(100, 54, 6764, 7, 4181, 1);
        due(6, "stoppedPart");
    }

    // ---- promise 18: keep

    @Says(promise = 18, it = "Takes a snapshot, in place of the one before.")
    void keepReplacesTheSnapshot() {
        ask("set", 0, 5);
        ask("keep");
        ask("set", 0, 6);
        ask("keep");
        ask("set", 0, 7);
        due(6, "restore");
        dueNumbers(6);
        due(6, "restore");
        dueNumbers(6);
    }

    @Says(promise = 18, it = "Takes a snapshot")
    void keepIsNotUndoable() {
        ask("keep");
        due(0, "savedStates");
        refused(STATE, "undo");
        ask("set", 0, 5);
        ask("keep");
        due(1, "savedStates");
        due(0, "undo");
        due(5, "restore");
    }

    @Says(promise = 18, it = "Returns the numbers of all stalls, together.")
    void keepAnswers0To40584() {
        due(0, "keep");
        works("0=6764;1=6764;2=6764;3=6764;4=6764;5=6764");
        due(40584, "keep");
        ask("set", 5, 6763);
        due(40583, "keep");
    }

    // ---- promise 19: restore

    @Says(promise = 19, it = "Restores the state of the snapshot, which stays.")
    void restoreBringsStallsStreamAndStopBack() {
        busy();
        ask("keep");
        works("0=0;1=0;2=0;3=0;4=0;5=0");
        ask("cut", 28);
        due(false, "hasStopped");
        due(11107, "restore");
        dueNumbers(100, 54, 6764, 7, 4181, 1);
        same("the stream", streamNow(), BUSY_STREAM);
        due(true, "hasStopped");
        due(6, "stoppedPart");
        due(2, "whyStopped");
    }

    @Says(promise = 19, it = "which stays")
    void restoreCanBeCalledAgain() {
        ask("keep");
        for (int i = 1; i <= 3; i++) {
            ask("set", 0, i);
            due(0, "restore");
            dueNumbers(0);
        }
        ask("undo");
        dueNumbers(3);
        due(0, "restore");
    }

    @Says(promise = 19, it = "Undoable.")
    void restoreIsUndone() {
        ask("keep");
        ask("set", 0, 5);
        undoable(0, "restore");
        undoable(0, "restore");
        due(2, "undo");
        dueNumbers(0);
        due(1, "undo");
        dueNumbers(5);
    }

    @Says(promise = 19, it = "Returns the numbers of all stalls then, together.")
    void restoreAnswers0To40584() {
        ask("keep");
        works("0=6764;1=6764;2=6764;3=6764;4=6764;5=6764");
        due(0, "restore");
        due(0, "total");
        ask("undo");
        ask("keep");
        ask("set", 0, 0);
        due(40584, "restore");
        due(40584, "total");
    }

    @Says(promise = 19, it = "Throws `IllegalStateException` if there is no snapshot")
    void restoreRefusesWithoutASnapshot() {
        refused(STATE, "restore");
        ask("set", 0, 5);
        works("f0");
        refused(STATE, "restore");
        dueNumbers(5);
        ask("keep");
        ask("undo");
        due(5, "restore");
    }

    // ---- promise 20: savedStates

    @Says(promise = 20, it = "Returns the number of saved states.")
    void savedStatesAnswers0To5() {
        due(0, "savedStates");
        for (int i = 1; i <= 7; i++) {
            ask("send", 1);
            due(Math.min(i, 5), "savedStates");
        }
        ask("undo");
        due(4, "savedStates");
        ask("set", 0, 0);
        due(5, "savedStates");
    }

    // ---- the terms: undo, the snapshot

    @Says(promise = 20, it = "Each method that is marked \"undoable\" and does not throw an exception saves the state from before it (also if it changes nothing):")
    void eachUndoableMethodSavesOneState() {
        String[] names = {"set", "add", "takeAway", "raise", "pay", "send", "turn", "cut", "restore", "work"};
        int[][] arguments = {{0, 9}, {0, 1}, {0, 1}, {0}, {0, 1, 1}, {5}, {0}, {1}, {}, {}};
        for (int i = 0; i < names.length; i++) {
            begin();
            busy();
            typeNew("3-5");
            int saved = Integer.parseInt(ask("savedStates"));
            same(names[i] + " is answered", ask(names[i], arguments[i]).startsWith("throws"), false);
            due(saved + 1, "savedStates");
            due(saved, "undo");
            dueNumbers(100, 54, 6764, 7, 4181, 1);
            same("the stream", streamNow(), BUSY_STREAM);
            due(6, "stoppedPart");
        }
    }

    @Says(promise = 20, it = "(also if it changes nothing)")
    void aCallThatChangesNothingSavesAState() {
        due(0, "set", 0, 0);
        due(1, "savedStates");
        due(0, "add", 0, 1);
        due(2, "savedStates");
        due(0, "takeAway", 0, 1);
        due(3, "savedStates");
        due(0, "raise", 0);
        due(4, "savedStates");
        type("0=0");
        due(1, "work");
        due(5, "savedStates");
        begin();
        ask("keep");
        due(0, "restore");
        due(1, "savedStates");
        type("0-0");
        due(1, "work");
        due(2, "savedStates");
    }

    @Says(promise = 20, it = "and does not throw an exception")
    void aRefusedCallSavesNoState() {
        String[] names = {"set", "set", "add", "add", "takeAway", "takeAway", "raise", "raise", "pay", "pay", "pay",
            "send", "send", "turn", "cut", "cut", "work"};
        int[][] arguments = {{6, 0}, {0, 6765}, {0, 6}, {2, 2}, {0, 6}, {0, 2}, {6}, {2}, {0, 6, 1}, {0, 0, 1}, {0, 2, 1},
            {0}, {6765}, {28}, {0}, {29}, {}};
        busy();
        for (int i = 0; i < names.length; i++) {
            same(Face.told(names[i], arguments[i]), ask(names[i], arguments[i]).startsWith("throws"), true);
            due(3, "savedStates");
        }
        begin();
        due(STATE, "restore");
        due(0, "savedStates");
    }

    @Says(promise = 20, it = "Each method that is marked \"undoable\"")
    void otherMethodsSaveNoState() {
        busy();
        ask("append", 's');
        ask("clearBuffer");
        ask("firstError");
        ask("keep");
        ask("say", 9);
        ask("digest");
        due(3, "savedStates");
    }

    @Says(promise = 17, it = "all, also the stream and the latest stop with its reason, but the buffer, the saved states and the snapshot")
    void undoBringsStallsStreamAndStopBack() {
        busy();
        works("0=0;1=0;2=0;3=0;4=0;5=0;f27;f0;s1;s1;f0;f1");
        due(false, "hasStopped");
        ask("undo");
        dueNumbers(100, 54, 6764, 7, 4181, 1);
        same("the stream", streamNow(), BUSY_STREAM);
        due(true, "hasStopped");
        due(6, "stoppedPart");
        due(2, "whyStopped");
    }

    @Says(promise = 17, it = "but the buffer, the saved states and the snapshot")
    void undoLeavesTheBuffer() {
        ask("set", 0, 1);
        type("0=7");
        due(0, "undo");
        due(3, "firstError");
        due(1, "work");
        dueNumbers(7);
        due(0, "undo");
        due(0, "clearBuffer");
    }

    @Says(promise = 17, it = "but the buffer, the saved states and the snapshot")
    void undoLeavesTheSnapshot() {
        ask("set", 0, 1);
        ask("set", 0, 2);
        ask("keep");
        ask("undo");
        ask("undo");
        due(2, "restore");
        dueNumbers(2);
    }

    @Says(promise = 18, it = "Takes a snapshot, in place of the one before.")
    void otherCallsLeaveTheSnapshot() {
        busy();
        ask("append", 's');
        ask("clearBuffer");
        ask("firstError");
        ask("digest");
        ask("undo");
        works("2=1");
        due(11100, "restore");
        dueNumbers(100, 54, 6764, 0, 4181, 1);
        due(0, "streamLength");
    }

    @Says(promise = 19, it = "(a snapshot has the same)")
    void restoreLeavesTheBuffer() {
        type("0=7");
        ask("keep");
        due(3, "clearBuffer");
        type("1=8;");
        due(0, "restore");
        due(4, "clearBuffer");
    }

    @Says(promise = 19, it = "(a snapshot has the same)")
    void restoreLeavesTheSavedStates() {
        ask("keep");
        ask("set", 0, 1);
        ask("set", 0, 2);
        due(0, "restore");
        due(3, "savedStates");
        due(2, "undo");
        dueNumbers(2);
        due(1, "undo");
        dueNumbers(1);
        due(0, "undo");
        dueNumbers(0);
    }

    @Says(promise = 19, it = "(a snapshot has the same)")
    void aSnapshotWithoutAStopBringsNoStop() {
        ask("keep");
        works("f0");
        due(true, "hasStopped");
        ask("restore");
        due(false, "hasStopped");
        ask("undo");
        due(4, "whyStopped");
    }

    @Says(promise = 20, it = "At most 5 states are saved; the oldest one is dropped first.")
    void theSixthStateDropsTheOldest() {
        for (int i = 1; i <= 5; i++) {
            ask("set", 0, i);
        }
        due(5, "savedStates");
        for (int i = 4; i >= 0; i--) {
            due(i, "undo");
            dueNumbers(i);
        }
        begin();
        for (int i = 1; i <= 6; i++) {
            ask("set", 0, i);
        }
        due(5, "savedStates");
        for (int i = 5; i >= 1; i--) {
            due(i - 1, "undo");
            dueNumbers(i);
        }
        refused(STATE, "undo");
        dueNumbers(1);
    }

    @Says(promise = 20, it = "the oldest one is dropped first")
    void manyMoreStatesDropTheOldestEachTime() {
        for (int i = 1; i <= 23; i++) {
            ask("set", 0, i);
            ask("send", 1);
            ask("undo");
        }
        ask("send", 1);
        due(4, "undo");
        dueNumbers(23);
        for (int i = 22; i >= 19; i--) {
            due(i - 19, "undo");
            dueNumbers(i);
        }
        refused(STATE, "undo");
    }
}
