/** The boundary cases of the promises 2 to 6 and 30 to 35: stalls. */
public final class StallBoundsTest extends Bounds {
    public static void main(String[] arguments) throws ReflectiveOperationException {
        run(StallBoundsTest.class);
    }

    private void dueNumbers(int... numbers) {
        for (int stall = 0; stall < 6; stall++) {
            due(stall < numbers.length ? numbers[stall] : 0, "numberOf", stall);
        }
    }

    // ---- promise 2: set

    @Says(promise = 2, it = "Gives a stall a number.")
    void setChangesThatStallAlone() {
        busy();
        due(7, "set", 3, 12);
        dueNumbers(100, 54, 6764, 12, 4181, 1);
        same("the stream", streamNow(), BUSY_STREAM);
        due(true, "hasStopped");
        due(6, "clearBuffer");
    }

    @Says(promise = 2, it = "Undoable.")
    void setIsUndone() {
        undoable(0, "set", 3, 12);
        undoable(12, "set", 3, 0);
    }

    @Says(promise = 2, it = "`stall`: 0 to 5")
    void setTakesTheStalls0To5() {
        due(0, "set", 0, 1);
        due(0, "set", 5, 2);
        dueNumbers(1, 0, 0, 0, 0, 2);
        refused(INDEX, "set", -1, 3);
        refused(INDEX, "set", 6, 3);
        dueNumbers(1, 0, 0, 0, 0, 2);
    }

    @Says(promise = 2, it = "`number`: 0 to 6764")
    void setTakesNumbers0To6764() {
        due(0, "set", 2, 6764);
        dueNumbers(0, 0, 6764);
        due(6764, "set", 2, 0);
        dueNumbers();
        refused(ARGUMENT, "set", 2, -1);
        refused(ARGUMENT, "set", 2, 6765);
    }

    @Says(promise = 2, it = "Returns the number before.")
    void setAnswersTheNumberBefore() {
        due(0, "set", 2, 6764);
        due(6764, "set", 2, 6764);
        due(6764, "set", 2, 0);
        due(0, "set", 2, 1);
    }

    @Says(promise = 2, it = "Throws `IndexOutOfBoundsException` if there is no such stall")
    void setRefusesOtherStalls() {
        for (int stall : outside(0, 5)) {
            refusedByNewAndBusy(INDEX, "set", stall, 1);
        }
    }

    @Says(promise = 2, it = "Throws `IllegalArgumentException` if number is out of range")
    void setRefusesOtherNumbers() {
        for (int number : outside(0, 6764)) {
            refusedByNewAndBusy(ARGUMENT, "set", 0, number);
            dueNumbers(100, 54, 6764, 7, 4181, 1);
        }
    }

    @Says(promise = 2, it = "If several exceptions apply, the one that is named first in the throws clause is thrown.")
    void setRefusesTheStallFirst() {
        for (int stall : outside(0, 5)) {
            for (int number : outside(0, 6764)) {
                refused(INDEX, "set", stall, number);
            }
        }
    }

    // ---- promise 3: add

    @Says(promise = 3, it = "Adds a stall to another one, or to itself.")
    void addTakesTwoStallsOrOne() {
        works("0=100;1=54");
        due(4, "add", 0, 1);
        dueNumbers(154, 54);
        due(3, "add", 0, 0);
        dueNumbers(308, 54);
    }

    @Says(promise = 3, it = "Undoable.")
    void addIsUndone() {
        works("0=100;1=54");
        undoable(4, "add", 0, 1);
        undoable(3, "add", 0, 0);
    }

    @Says(promise = 3, it = "`stall`: 0 to 5: the one that has the sum then")
    void addPutsTheSumIntoTheStalls0To5() {
        works("0=2;5=3");
        due(1, "add", 5, 0);
        dueNumbers(2, 0, 0, 0, 0, 5);
        due(0, "add", 0, 5);
        dueNumbers(7, 0, 0, 0, 0, 5);
        refused(INDEX, "add", -1, 0);
        refused(INDEX, "add", 6, 0);
    }

    @Says(promise = 3, it = "`other`: 0 to 5: the one that is added")
    void addAddsTheStalls0To5() {
        works("0=2;2=3;5=5");
        due(1, "add", 2, 0);
        dueNumbers(2, 0, 5, 0, 0, 5);
        due(1, "add", 2, 5);
        dueNumbers(2, 0, 10, 0, 0, 5);
        refused(INDEX, "add", 2, -1);
        refused(INDEX, "add", 2, 6);
    }

    @Says(promise = 3, it = "Returns the number of carries.")
    void addAnswersFromNoCarryOn() {
        due(0, "add", 0, 1);
        works("0=1;1=3;2=1;3=1598;4=2583");
        due(0, "add", 0, 1);
        due(4, "numberOf", 0);
        due(1, "add", 2, 2);
        due(17, "add", 3, 4);
        due(4181, "numberOf", 3);
    }

    @Says(promise = 3, it = "Throws `IndexOutOfBoundsException` if there is no such stall")
    void addRefusesOtherStalls() {
        for (int stall : outside(0, 5)) {
            refusedByNewAndBusy(INDEX, "add", stall, 0);
            refusedByNewAndBusy(INDEX, "add", 0, stall);
            refusedByNewAndBusy(INDEX, "add", stall, stall);
        }
    }

    @Says(promise = 3, it = "Throws `IllegalStateException` if the sum would be above 6764")
    void addTakesSumsTo6764() {
        works("0=6763;1=1;2=3382;3=3383");
        due(0, "add", 0, 4);
        due(1, "add", 0, 1);
        due(6764, "numberOf", 0);
        refused(STATE, "add", 0, 1);
        refused(STATE, "add", 1, 0);
        refused(STATE, "add", 0, 0);
        refused(STATE, "add", 2, 3);
        ask("add", 2, 2);
        due(6764, "numberOf", 2);
        refused(STATE, "add", 3, 3);
        due(3383, "numberOf", 3);
        due(0, "add", 0, 5);
        due(6764, "numberOf", 0);
    }

    @Says(promise = 3, it = "If several exceptions apply, the one that is named first in the throws clause is thrown.")
    void addRefusesTheStallFirst() {
        works("0=6764;5=6764");
        refused(STATE, "add", 0, 5);
        refused(INDEX, "add", 0, 6);
        refused(INDEX, "add", -1, 5);
    }

    // ---- promise 4: takeAway

    @Says(promise = 4, it = "Takes a stall away from another one, or from itself.")
    void takeAwayTakesTwoStallsOrOne() {
        works("0=100;1=54");
        due(46, "takeAway", 0, 1);
        dueNumbers(46, 54);
        due(0, "takeAway", 1, 1);
        dueNumbers(46, 0);
    }

    @Says(promise = 4, it = "Undoable.")
    void takeAwayIsUndone() {
        works("0=100;1=54");
        undoable(46, "takeAway", 0, 1);
        undoable(0, "takeAway", 0, 0);
    }

    @Says(promise = 4, it = "`stall`: 0 to 5: the one that has the difference then")
    void takeAwayPutsTheDifferenceIntoTheStalls0To5() {
        works("0=9;2=4;5=7");
        due(5, "takeAway", 0, 2);
        due(3, "takeAway", 5, 2);
        dueNumbers(5, 0, 4, 0, 0, 3);
        refused(INDEX, "takeAway", -1, 2);
        refused(INDEX, "takeAway", 6, 2);
    }

    @Says(promise = 4, it = "`other`: 0 to 5: the one that is taken away")
    void takeAwayTakesAwayTheStalls0To5() {
        works("0=1;2=9;5=2");
        due(8, "takeAway", 2, 0);
        due(6, "takeAway", 2, 5);
        dueNumbers(1, 0, 6, 0, 0, 2);
        refused(INDEX, "takeAway", 2, -1);
        refused(INDEX, "takeAway", 2, 6);
    }

    @Says(promise = 4, it = "Returns the difference.")
    void takeAwayAnswers0To6764() {
        works("0=6764;1=6764;2=1");
        due(6764, "takeAway", 0, 3);
        due(6763, "takeAway", 0, 2);
        due(0, "takeAway", 1, 1);
    }

    @Says(promise = 4, it = "Throws `IndexOutOfBoundsException` if there is no such stall")
    void takeAwayRefusesOtherStalls() {
        for (int stall : outside(0, 5)) {
            refusedByNewAndBusy(INDEX, "takeAway", stall, 3);
            refusedByNewAndBusy(INDEX, "takeAway", 2, stall);
            refusedByNewAndBusy(INDEX, "takeAway", stall, stall);
        }
    }

    @Says(promise = 4, it = "Throws `IllegalStateException` if it would be below 0")
    void takeAwayAnswersFrom0On() {
        works("0=54;1=55;2=54;3=6764");
        refused(STATE, "takeAway", 0, 1);
        refused(STATE, "takeAway", 4, 3);
        refused(STATE, "takeAway", 1, 3);
        due(0, "takeAway", 0, 2);
        due(1, "takeAway", 1, 2);
        refused(STATE, "takeAway", 0, 1);
        due(0, "takeAway", 0, 4);
    }

    @Says(promise = 4, it = "If several exceptions apply, the one that is named first in the throws clause is thrown.")
    void takeAwayRefusesTheStallFirst() {
        works("5=6764");
        refused(STATE, "takeAway", 0, 5);
        refused(INDEX, "takeAway", -1, 5);
        refused(INDEX, "takeAway", 0, 6);
    }

    // ---- promise 5: raise

    @Says(promise = 5, it = "Raises a stall.")
    void raiseChangesThatStallAlone() {
        works("0=100;1=54");
        due(162, "raise", 0);
        dueNumbers(162, 54);
    }

    @Says(promise = 5, it = "To raise a stall means that each step of its number, as it is said, becomes the step above it.")
    void raiseMovesEachStepUp() {
        for (int step = 0; step < 17; step++) {
            begin();
            int worth = Integer.parseInt(ask("worthOf", step));
            int above = Integer.parseInt(ask("worthOf", step + 1));
            ask("set", 0, worth);
            due(above, "raise", 0);
        }
        begin();
        works("0=0;1=4");
        due(0, "raise", 0);
        due(7, "raise", 1);
        due(10, "say", 7);
    }

    @Says(promise = 5, it = "Undoable.")
    void raiseIsUndone() {
        works("0=100");
        undoable(162, "raise", 0);
        undoable(0, "raise", 1);
    }

    @Says(promise = 5, it = "`stall`: 0 to 5")
    void raiseTakesTheStalls0To5() {
        works("0=1;5=2");
        due(2, "raise", 0);
        due(3, "raise", 5);
        refused(INDEX, "raise", -1);
        refused(INDEX, "raise", 6);
    }

    @Says(promise = 5, it = "Returns its number then.")
    void raiseAnswers0To6764() {
        due(0, "raise", 0);
        works("0=1;1=4180");
        due(2, "raise", 0);
        due(2, "numberOf", 0);
        due(6764, "raise", 1);
        due(6764, "numberOf", 1);
    }

    @Says(promise = 5, it = "Throws `IndexOutOfBoundsException` if there is no such stall")
    void raiseRefusesOtherStalls() {
        for (int stall : outside(0, 5)) {
            refusedByNewAndBusy(INDEX, "raise", stall);
        }
    }

    @Says(promise = 5, it = "Throws `IllegalStateException` if it has the step 17")
    void raiseTakesStepsTo16() {
        works("0=4180;1=4181;2=2584;3=6764;4=4182");
        refused(STATE, "raise", 1);
        refused(STATE, "raise", 3);
        refused(STATE, "raise", 4);
        due(4181, "raise", 2);
        refused(STATE, "raise", 2);
        due(6764, "raise", 0);
        refused(STATE, "raise", 0);
    }

    // ---- promise 6: pay

    @Says(promise = 6, it = "Pays a number from a stall to another one.")
    void payChangesBothStalls() {
        works("0=100;1=54;2=9");
        due(90, "pay", 0, 1, 10);
        dueNumbers(90, 64, 9);
    }

    @Says(promise = 6, it = "Undoable.")
    void payIsUndoneForBothStalls() {
        works("0=100;1=54");
        undoable(90, "pay", 0, 1, 10);
    }

    @Says(promise = 6, it = "`stall`: 0 to 5: the one that pays")
    void payPaysFromTheStalls0To5() {
        works("0=9;5=8");
        due(8, "pay", 0, 2, 1);
        due(6, "pay", 5, 2, 2);
        dueNumbers(8, 0, 3, 0, 0, 6);
        refused(INDEX, "pay", -1, 2, 1);
        refused(INDEX, "pay", 6, 2, 1);
    }

    @Says(promise = 6, it = "`other`: 0 to 5")
    void payPaysToTheStalls0To5() {
        works("2=9");
        due(8, "pay", 2, 0, 1);
        due(6, "pay", 2, 5, 2);
        dueNumbers(1, 0, 6, 0, 0, 2);
        refused(INDEX, "pay", 2, -1, 1);
        refused(INDEX, "pay", 2, 6, 1);
    }

    @Says(promise = 6, it = "`number`: 1 to 6764")
    void payPays1To6764() {
        works("0=6764;2=1");
        refused(ARGUMENT, "pay", 0, 1, 0);
        refused(ARGUMENT, "pay", 0, 1, 6765);
        due(0, "pay", 0, 1, 6764);
        dueNumbers(0, 6764, 1);
        due(0, "pay", 2, 0, 1);
        dueNumbers(1, 6764, 0);
    }

    @Says(promise = 6, it = "Returns the number of the one that pays then.")
    void payAnswersFrom0On() {
        works("0=6764");
        due(6763, "pay", 0, 1, 1);
        due(6763, "numberOf", 0);
        due(0, "pay", 0, 1, 6763);
        due(0, "numberOf", 0);
    }

    @Says(promise = 6, it = "Throws `IndexOutOfBoundsException` if there is no such stall")
    void payRefusesOtherStalls() {
        for (int stall : outside(0, 5)) {
            refusedByNewAndBusy(INDEX, "pay", stall, 3, 1);
            refusedByNewAndBusy(INDEX, "pay", 2, stall, 1);
        }
    }

    @Says(promise = 6, it = "Throws `IllegalArgumentException` if both are the same, or number is out of range")
    void payRefusesTheSameStall() {
        for (int stall = 0; stall < 6; stall++) {
            refusedByNewAndBusy(ARGUMENT, "pay", stall, stall, 1);
        }
    }

    @Says(promise = 6, it = "or number is out of range")
    void payRefusesOtherNumbers() {
        for (int number : outside(1, 6764)) {
            refusedByNewAndBusy(ARGUMENT, "pay", 2, 3, number);
        }
    }

    @Says(promise = 6, it = "Throws `IllegalStateException` if the one that pays has less,")
    void payRefusesMoreThanThereIs() {
        works("0=54;2=6763");
        refused(STATE, "pay", 0, 1, 55);
        refused(STATE, "pay", 1, 0, 1);
        refused(STATE, "pay", 2, 1, 6764);
        dueNumbers(54, 0, 6763);
        due(0, "pay", 0, 1, 54);
        dueNumbers(0, 54, 6763);
        refused(STATE, "pay", 0, 1, 1);
    }

    @Says(promise = 6, it = "or the other one would have more than 6764")
    void payRefusesMoreThan6764ForTheOther() {
        works("0=100;1=6710;2=6764;3=6764");
        refused(STATE, "pay", 0, 1, 55);
        due(46, "pay", 0, 1, 54);
        dueNumbers(46, 6764, 6764, 6764);
        refused(STATE, "pay", 0, 1, 1);
        refused(STATE, "pay", 2, 3, 6764);
        refused(STATE, "pay", 2, 0, 6764);
        dueNumbers(46, 6764, 6764, 6764);
    }

    @Says(promise = 6, it = "If several exceptions apply, the one that is named first in the throws clause is thrown.")
    void payRefusesTheStallFirst() {
        works("0=5");
        for (int stall : outside(0, 5)) {
            refused(INDEX, "pay", stall, stall, 1);
            refused(INDEX, "pay", stall, 0, 0);
            refused(INDEX, "pay", 0, stall, 6765);
            refused(INDEX, "pay", 0, stall, 6);
        }
    }

    @Says(promise = 6, it = "the one that is named first in the throws clause is thrown")
    void payRefusesTheArgumentBeforeTheState() {
        works("0=5;1=6764");
        refused(STATE, "pay", 0, 1, 6);
        refused(ARGUMENT, "pay", 0, 0, 6);
        refused(ARGUMENT, "pay", 1, 1, 6764);
        refused(ARGUMENT, "pay", 0, 1, 6765);
        refused(ARGUMENT, "pay", 2, 1, 6765);
        refused(ARGUMENT, "pay", 3, 3, 0);
    }

    // ---- promise 30: numberOf

    @Says(promise = 30, it = "Returns the number of a stall.")
    void numberOfAnswersEachStall() {
        works("0=1;1=2;2=3;3=4;4=5;5=6");
        dueNumbers(1, 2, 3, 4, 5, 6);
    }

    @Says(promise = 30, it = "Returns the number.")
    void numberOfAnswers0To6764() {
        due(0, "numberOf", 3);
        ask("set", 3, 6764);
        due(6764, "numberOf", 3);
    }

    @Says(promise = 30, it = "`stall`: 0 to 5")
    void numberOfTakesTheStalls0To5() {
        works("0=1;5=6");
        due(1, "numberOf", 0);
        due(6, "numberOf", 5);
        refused(INDEX, "numberOf", -1);
        refused(INDEX, "numberOf", 6);
    }

    @Says(promise = 30, it = "Throws `IndexOutOfBoundsException` if there is no such stall")
    void numberOfRefusesOtherStalls() {
        for (int stall : outside(0, 5)) {
            refusedByNewAndBusy(INDEX, "numberOf", stall);
        }
    }

    // ---- promise 31: stepsOf

    @Says(promise = 31, it = "Returns the number of steps of the number of a stall, as it is said.")
    void stepsOfAnswers0To9() {
        works("0=0;1=1;2=4180;3=6764;4=4181");
        due(0, "stepsOf", 0);
        due(1, "stepsOf", 1);
        due(9, "stepsOf", 2);
        due(9, "stepsOf", 3);
        due(1, "stepsOf", 4);
    }

    @Says(promise = 31, it = "Returns how many.")
    void stepsOfAnswersForTheNumberOfNow() {
        ask("set", 2, 3);
        due(1, "stepsOf", 2);
        ask("set", 2, 4);
        due(2, "stepsOf", 2);
        ask("undo");
        due(1, "stepsOf", 2);
    }

    @Says(promise = 31, it = "`stall`: 0 to 5")
    void stepsOfTakesTheStalls0To5() {
        works("0=100;5=4");
        due(3, "stepsOf", 0);
        due(2, "stepsOf", 5);
        refused(INDEX, "stepsOf", -1);
        refused(INDEX, "stepsOf", 6);
    }

    @Says(promise = 31, it = "Throws `IndexOutOfBoundsException` if there is no such stall")
    void stepsOfRefusesOtherStalls() {
        for (int stall : outside(0, 5)) {
            refusedByNewAndBusy(INDEX, "stepsOf", stall);
        }
    }

    // ---- promises 32, 33: total, richest

    @Says(promise = 32, it = "Returns the numbers of all stalls, together.")
    void totalAnswers0To40584() {
        due(0, "total");
        for (int stall = 0; stall < 6; stall++) {
            ask("set", stall, 6764);
            due(6764 * (stall + 1), "total");
        }
        due(40584, "total");
    }

    @Says(promise = 33, it = "Returns the stall with the greatest number, of several the lowest.")
    void richestIsTheLowestOfSeveral() {
        due(0, "richest");
        ask("set", 5, 1);
        due(5, "richest");
        ask("set", 1, 1);
        due(1, "richest");
        ask("set", 5, 2);
        due(5, "richest");
        ask("set", 0, 2);
        due(0, "richest");
        ask("set", 3, 6764);
        due(3, "richest");
        works("0=6764;1=6764;2=6764;4=6764;5=6764");
        due(0, "richest");
    }

    // ---- promise 34: sumByCarries

    @Says(promise = 34, it = "Returns the mark of the sum of two stalls, told by carries")
    void sumByCarriesSaysSumsTo6764() {
        due(0, "sumByCarries", 0, 1);
        works("0=6763;1=1;2=3382");
        due(174762, "sumByCarries", 0, 1);
        due(174762, "sumByCarries", 2, 2);
        due(1, "sumByCarries", 1, 3);
        due(2, "sumByCarries", 1, 1);
    }

    @Says(promise = 34, it = "(also if it is above 6764: then with the step 18 or 19)")
    void sumByCarriesSaysSumsAbove6764() {
        works("0=6764;1=1;2=4182;3=4181;4=2584");
        due(262144, "sumByCarries", 0, 1);
        due(262144, "sumByCarries", 3, 4);
        due(349525, "sumByCarries", 0, 3);
        due(524288, "sumByCarries", 0, 2);
        due(567977, "sumByCarries", 0, 0);
        dueNumbers(6764, 1, 4182, 4181, 2584);
        refused(STATE, "add", 0, 1);
    }

    @Says(promise = 34, it = "Returns the mark.")
    void sumByCarriesIsTheSameEitherWay() {
        works("0=100;1=54;2=6764");
        due(1042, "sumByCarries", 0, 1);
        due(1042, "sumByCarries", 1, 0);
        same("either way", ask("sumByCarries", 2, 0), ask("sumByCarries", 0, 2));
    }

    @Says(promise = 34, it = "`stall`: 0 to 5")
    void sumByCarriesTakesTheStalls0To5() {
        works("0=1;5=2");
        due(1, "sumByCarries", 0, 2);
        due(2, "sumByCarries", 5, 2);
        refused(INDEX, "sumByCarries", -1, 2);
        refused(INDEX, "sumByCarries", 6, 2);
    }

    @Says(promise = 34, it = "`other`: 0 to 5")
    void sumByCarriesTakesOthers0To5() {
        works("0=1;5=2");
        due(1, "sumByCarries", 2, 0);
        due(2, "sumByCarries", 2, 5);
        refused(INDEX, "sumByCarries", 2, -1);
        refused(INDEX, "sumByCarries", 2, 6);
    }

    @Says(promise = 34, it = "Throws `IndexOutOfBoundsException` if there is no such stall")
    void sumByCarriesRefusesOtherStalls() {
        for (int stall : outside(0, 5)) {
            refusedByNewAndBusy(INDEX, "sumByCarries", stall, 0);
            refusedByNewAndBusy(INDEX, "sumByCarries", 0, stall);
        }
    }

    // ---- promise 35: carries

    @Says(promise = 35, it = "Returns the number of carries with which two stalls are added.")
    void carriesAnswers0To19() {
        due(0, "carries", 0, 1);
        works("0=6764;1=4182;2=1;3=3");
        due(0, "carries", 2, 3);
        due(1, "carries", 2, 2);
        due(19, "carries", 0, 1);
        due(9, "carries", 0, 2);
        due(18, "carries", 0, 0);
    }

    @Says(promise = 35, it = "Returns how many.")
    void carriesIsTheSameEitherWay() {
        works("0=100;1=54;2=6764");
        due(4, "carries", 0, 1);
        due(4, "carries", 1, 0);
        same("either way", ask("carries", 2, 0), ask("carries", 0, 2));
    }

    @Says(promise = 35, it = "`stall`: 0 to 5")
    void carriesTakesTheStalls0To5() {
        works("0=1;2=2;5=3");
        due(1, "carries", 0, 2);
        due(1, "carries", 5, 2);
        refused(INDEX, "carries", -1, 2);
        refused(INDEX, "carries", 6, 2);
    }

    @Says(promise = 35, it = "`other`: 0 to 5")
    void carriesTakesOthers0To5() {
        works("0=1;2=2;5=3");
        due(1, "carries", 2, 0);
        due(1, "carries", 2, 5);
        refused(INDEX, "carries", 2, -1);
        refused(INDEX, "carries", 2, 6);
    }

    @Says(promise = 35, it = "Throws `IndexOutOfBoundsException` if there is no such stall")
    void carriesRefusesOtherStalls() {
        for (int stall : outside(0, 5)) {
            refusedByNewAndBusy(INDEX, "carries", stall, 0);
            refusedByNewAndBusy(INDEX, "carries", 0, stall);
        }
    }

    // ---- the terms: how sets are added

    @Says(promise = 35, it = "until no step counts twice, and no two neighbours count")
    void noCarryWhereNothingIsToCarry() {
        works("0=1;1=3;2=8;3=4181");
        due(0, "carries", 0, 1);
        due(0, "carries", 1, 2);
        due(0, "carries", 3, 0);
        due(0, "carries", 0, 4);
        due(5, "sumByCarries", 0, 1);
    }

    @Says(promise = 35, it = "from the step 19 down (steps above 17 are worth as much as the two below them, too), the first step is looked for")
    void theHighestStepIsCarriedFirst() {
        // From the lowest one it would be more carries: 2 and 4 are the steps 1, and 0 and 2.
        works("0=2;1=4;2=6764;3=2584");
        due(1, "carries", 0, 1);
        due(9, "sumByCarries", 0, 1);
        due(1, "carries", 2, 3);
        due(305834, "sumByCarries", 2, 3);
    }

    @Says(promise = 35, it = "the first of them that holds: it and the step above it count (each loses 1, and the step 2 above gets 1)")
    void neighboursAreCarriedBeforeWhatCountsTwice() {
        // 6 and 6: the step 3 counts twice, then the step 0 counts twice and the step 1 once.
        works("0=6;1=1;2=2;3=4181;4=2584");
        due(2, "carries", 0, 0);
        due(21, "sumByCarries", 0, 0);
        due(1, "carries", 1, 2);
        due(4, "sumByCarries", 1, 2);
        due(1, "carries", 3, 4);
        due(262144, "sumByCarries", 3, 4);
    }

    @Says(promise = 35, it = "(each loses 1, and the step 2 above gets 1)")
    void theStepAboveANeighbourCanCountAgain() {
        // 17 is the steps 0, 2 and 5; the step above a neighbour is emptied, and gets 1 once more.
        works("0=17;1=20;2=6764");
        due(6, "carries", 0, 0);
        due(128, "sumByCarries", 0, 0);
        due(6, "carries", 0, 1);
        due(18, "carries", 2, 2);
    }

    @Says(promise = 35, it = "it counts twice or more (it loses 2; the step 0: the step 1 gets 1;")
    void theStep0CountsTwice() {
        works("0=1;1=4");
        due(1, "carries", 0, 0);
        due(2, "sumByCarries", 0, 0);
        // The step 2 twice gives the step 0 a third time.
        due(4, "carries", 1, 1);
        due(16, "sumByCarries", 1, 1);
    }

    @Says(promise = 35, it = "the step 1: the step 2 and the step 0 get 1 each;")
    void theStep1CountsTwice() {
        ask("set", 0, 2);
        due(1, "carries", 0, 0);
        due(5, "sumByCarries", 0, 0);
    }

    @Says(promise = 35, it = "another one: the step above it, and the step 2 below it get 1 each)")
    void anotherStepCountsTwice() {
        works("0=3;1=5;2=4181");
        due(1, "carries", 0, 0);
        due(9, "sumByCarries", 0, 0);
        due(1, "carries", 1, 1);
        due(18, "sumByCarries", 1, 1);
        due(1, "carries", 2, 2);
        due(262144 + 32768, "sumByCarries", 2, 2);
    }

    @Says(promise = 35, it = "Each of these is a carry.")
    void eachCarryIsCounted() {
        works("0=1;1=4;2=6764");
        due(2, "carries", 0, 1);
        due(9, "carries", 0, 2);
        due(2, "add", 0, 1);
    }

    @Says(promise = 34, it = "To add two sets means to count each step that is in one of them once, one that is in both twice")
    void stepsInOneAndInBothCount() {
        works("0=12;1=9");
        // 12 is 8, 3, 1 and 9 is 8, 1: the steps 0 and 4 twice, the step 2 once; 21 is the step 6.
        due(64, "sumByCarries", 0, 1);
        due(64, "say", 21);
    }

    @Says(promise = 30, it = "There are 6 stalls, 0 to 5, each with a number, at first 0.")
    void sixStallsAreEmptyAtFirst() {
        dueNumbers(0, 0, 0, 0, 0, 0);
        refused(INDEX, "numberOf", 6);
        refused(INDEX, "numberOf", -1);
    }
}
