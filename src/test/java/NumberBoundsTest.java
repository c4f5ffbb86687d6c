/** The boundary cases of the promises 21 to 29: looks at numbers. */
public final class NumberBoundsTest extends Bounds {
    private static final int[] WORTHS = {
        1, 2, 3, 5, 8, 13, 21, 34, 55, 89, 144, 233, 377, 610, 987, 1597, 2584, 4181
    };

    public static void main(String[] arguments) throws ReflectiveOperationException {
        run(NumberBoundsTest.class);
    }

    private int number(String name, int... arguments) {
        return Integer.parseInt(ask(name, arguments));
    }

    private static int worth(int mark) {
        int sum = 0;
        for (int step = 0; step < WORTHS.length; step++) {
            sum += (mark >> step & 1) * WORTHS[step];
        }
        return sum;
    }

    private void refusesOthersThan0To6764(String name) {
        for (int number : outside(0, 6764)) {
            refusedByNewAndBusy(ARGUMENT, name, number);
        }
    }

    private void takes0To6764(String name, int of0, int of6764) {
        due(of0, name, 0);
        due(of6764, name, 6764);
        refused(ARGUMENT, name, -1);
        refused(ARGUMENT, name, 6765);
    }

    /** An object is used for at most 512 calls. */
    private void beginAgainEach(int number) {
        if (number % 250 == 0) {
            begin();
        }
    }

    // ---- promise 21: worthOf

    @Says(promise = 21, it = "Returns the worth of a step.")
    void worthOfAnswersForEachStep() {
        for (int step = 0; step < 18; step++) {
            due(WORTHS[step], "worthOf", step);
        }
    }

    @Says(promise = 21, it = "`step`: 0 to 17")
    void worthOfTakesTheSteps0To17() {
        due(1, "worthOf", 0);
        due(4181, "worthOf", 17);
        refused(INDEX, "worthOf", -1);
        refused(INDEX, "worthOf", 18);
        refused(INDEX, "worthOf", 19);
    }

    @Says(promise = 21, it = "Returns the worth.")
    void worthOfAnswers1To4181() {
        due(1, "worthOf", 0);
        due(4181, "worthOf", 17);
    }

    @Says(promise = 21, it = "Throws `IndexOutOfBoundsException` if there is no such step")
    void worthOfRefusesOtherSteps() {
        for (int step : outside(0, 17)) {
            refusedByNewAndBusy(INDEX, "worthOf", step);
        }
    }

    @Says(promise = 21, it = "There are 18 steps, 0 to 17.")
    void thereAre18Steps() {
        int steps = 0;
        for (int step = -3; step < 30; step++) {
            steps += ask("worthOf", step).equals(INDEX) ? 0 : 1;
        }
        same("the number of steps", steps, 18);
    }

    @Says(promise = 21, it = "The worth of the step 0 is 1, that of the step 1 is 2, each other one is worth as much as the two steps below it, together (3, 5, 8, ..., 4181).")
    void theWorthsOfTheFirstAndTheOtherSteps() {
        due(1, "worthOf", 0);
        due(2, "worthOf", 1);
        for (int step = 2; step < 18; step++) {
            due(number("worthOf", step - 1) + number("worthOf", step - 2), "worthOf", step);
        }
        due(4181, "worthOf", 17);
    }

    // ---- promise 22: worthOfSet

    @Says(promise = 22, it = "Returns the worth of a set of steps.")
    void worthOfSetAnswersForEachStepAlone() {
        for (int step = 0; step < 18; step++) {
            due(WORTHS[step], "worthOfSet", 1 << step);
            due(10944 - WORTHS[step], "worthOfSet", 262143 - (1 << step));
        }
    }

    @Says(promise = 22, it = "`mark`: 0 to 262143: the mark of the set, neighbours allowed")
    void worthOfSetTakesTheMarks0To262143() {
        due(0, "worthOfSet", 0);
        due(3, "worthOfSet", 3);
        due(10944, "worthOfSet", 262143);
        refused(ARGUMENT, "worthOfSet", -1);
        refused(ARGUMENT, "worthOfSet", 262144);
    }

    @Says(promise = 22, it = "Returns the worth.")
    void worthOfSetAnswers0To10944() {
        due(0, "worthOfSet", 0);
        due(1, "worthOfSet", 1);
        due(6764, "worthOfSet", 174762);
        due(10944, "worthOfSet", 262143);
    }

    @Says(promise = 22, it = "Throws `IllegalArgumentException` if mark is out of range")
    void worthOfSetRefusesOtherMarks() {
        for (int mark : outside(0, 262143)) {
            refusedByNewAndBusy(ARGUMENT, "worthOfSet", mark);
        }
        refused(ARGUMENT, "worthOfSet", 524288);
    }

    @Says(promise = 22, it = "A set of steps is told as a number itself, the mark: the sum of 2 to the power of its steps; its worth is the sum of the worths of its steps.")
    void theMarkIsOfPowersOf2() {
        due(0, "worthOfSet", 0);
        due(1, "worthOfSet", 1);
        due(4181, "worthOfSet", 131072);
        due(1 + 2 + 4181, "worthOfSet", 131072 + 2 + 1);
    }

    // ---- promise 23: say

    @Says(promise = 23, it = "Says a number, told greedily.")
    void sayTakesAStepAtItsWorth() {
        for (int step = 0; step < 18; step++) {
            due(1 << step, "say", WORTHS[step]);
            if (step >= 2) {
                due((1 << step) + 1, "say", WORTHS[step] + 1);
                due((1 << step - 1) + number("say", WORTHS[step - 2] - 1), "say", WORTHS[step] - 1);
            }
        }
    }

    @Says(promise = 23, it = "`number`: 0 to 6764")
    void sayTakes0To6764() {
        takes0To6764("say", 0, 174762);
    }

    @Says(promise = 23, it = "Returns the mark.")
    void sayAnswers0To174762() {
        due(0, "say", 0);
        due(1, "say", 1);
        due(87381, "say", 4180);
        due(131072, "say", 4181);
        due(174762, "say", 6764);
    }

    @Says(promise = 23, it = "Throws `IllegalArgumentException` if number is out of range")
    void sayRefusesOtherNumbers() {
        refusesOthersThan0To6764("say");
    }

    @Says(promise = 23, it = "To say a number means to tell the set of steps with this worth in which no two steps are neighbours (their numbers differ by 1); there is always just one.")
    void noTwoStepsAreNeighbours() {
        int wrong = 0;
        for (int number = 0; number <= 6764; number++) {
            beginAgainEach(number);
            int mark = number("say", number);
            wrong += worth(mark) == number && (mark & mark << 1) == 0 && mark <= 262143 ? 0 : 1;
        }
        same("numbers with neighbours or another worth", wrong, 0);
    }

    @Says(promise = 23, it = "Told greedily, the greatest step that is not worth more than what is left is taken, again and again, until nothing is left.")
    void theGreatestStepIsTakenUntilNothingIsLeft() {
        due(0, "say", 0);
        due(8, "say", 5);
        due(9, "say", 6);
        due(10, "say", 7);
        due(16, "say", 8);
        due(65536 + 16384 + 4096 + 1024 + 256 + 64 + 16 + 4 + 1, "say", 4180);
        due(131072 + 1, "say", 4182);
    }

    @Says(promise = 23, it = "Numbers are 0 to 6764.")
    void numbersAre0To6764() {
        due(0, "say", 0);
        due(174762, "say", 6764);
        refused(ARGUMENT, "say", 6765);
        refused(ARGUMENT, "say", -1);
    }

    // ---- promise 24: sayByCounting

    @Says(promise = 24, it = "Says a number, told by counting up.")
    void sayByCountingIsAsSay() {
        int wrong = 0;
        for (int number = 0; number <= 6764; number += number < 300 || number > 6700 ? 1 : 11) {
            begin();
            wrong += ask("sayByCounting", number).equals(ask("say", number)) ? 0 : 1;
        }
        same("numbers that are said otherwise", wrong, 0);
    }

    @Says(promise = 24, it = "`number`: 0 to 6764")
    void sayByCountingTakes0To6764() {
        takes0To6764("sayByCounting", 0, 174762);
    }

    @Says(promise = 24, it = "Returns the mark.")
    void sayByCountingAnswers0To174762() {
        due(0, "sayByCounting", 0);
        due(1, "sayByCounting", 1);
        due(87381, "sayByCounting", 4180);
        due(131072, "sayByCounting", 4181);
        due(174762, "sayByCounting", 6764);
    }

    @Says(promise = 24, it = "Throws `IllegalArgumentException` if number is out of range")
    void sayByCountingRefusesOtherNumbers() {
        refusesOthersThan0To6764("sayByCounting");
    }

    @Says(promise = 24, it = "Told by counting up, the step 0 is added so many times to the empty set, with carries.")
    void theStep0IsAddedFromNoTimesOn() {
        int[] marks = {0, 1, 2, 4, 5, 8, 9, 10, 16};
        for (int number = 0; number < marks.length; number++) {
            due(marks[number], "sayByCounting", number);
        }
    }

    // ---- promise 25: fullSet

    @Says(promise = 25, it = "Returns the full set of a number.")
    void fullSetAroundTheWorthOfAllSteps() {
        int everyOther = 1;
        int everyOtherBelow = 0;
        for (int steps = 1; steps < 18; steps++) {
            int all = (1 << steps) - 1;
            due(all, "fullSet", worth(all));
            int next = everyOtherBelow + (1 << steps);
            due(next, "fullSet", worth(all) + 1);
            everyOtherBelow = everyOther;
            everyOther = next;
        }
    }

    @Says(promise = 25, it = "`number`: 0 to 6764")
    void fullSetTakes0To6764() {
        takes0To6764("fullSet", 0, 174762);
    }

    @Says(promise = 25, it = "Returns the mark.")
    void fullSetAnswersForTheFirstAndTheLast() {
        due(0, "fullSet", 0);
        due(1, "fullSet", 1);
        due(87382, "fullSet", 4181);
        due(174762, "fullSet", 6764);
    }

    @Says(promise = 25, it = "Throws `IllegalArgumentException` if number is out of range")
    void fullSetRefusesOtherNumbers() {
        refusesOthersThan0To6764("fullSet");
    }

    @Says(promise = 25, it = "The full set of a number is the set of steps with this worth in which of each two neighbours below its greatest step at least one is in it; there is always just one, the empty set for 0.")
    void ofTwoNeighboursOneIsInTheFullSet() {
        int wrong = 0;
        for (int number = 0; number <= 6764; number++) {
            beginAgainEach(number);
            int mark = number("fullSet", number);
            boolean full = mark == 0 || !Integer.toBinaryString(mark).contains("00");
            wrong += worth(mark) == number && full && mark >= 0 && mark <= 262143 ? 0 : 1;
        }
        same("numbers with two neighbours left out or another worth", wrong, 0);
    }

    @Says(promise = 25, it = "the empty set for 0")
    void theFullSetOf0IsEmpty() {
        due(0, "fullSet", 0);
        due(1, "fullSet", 1);
        due(2, "fullSet", 2);
        due(3, "fullSet", 3);
        due(5, "fullSet", 4);
    }

    // ---- promises 26, 27: ways, waysByGaps

    @Says(promise = 26, it = "Returns the ways of a number, told by a table.")
    void waysIsAsAllSetsTell() {
        int[] ways = new int[10945];
        for (int mark = 0; mark <= 262143; mark++) {
            ways[worth(mark)]++;
        }
        int wrong = 0;
        for (int number = 0; number <= 6764; number++) {
            beginAgainEach(number);
            wrong += number("ways", number) == ways[number] ? 0 : 1;
        }
        same("numbers with other ways", wrong, 0);
    }

    @Says(promise = 26, it = "`number`: 0 to 6764")
    void waysTakes0To6764() {
        takes0To6764("ways", 1, 1);
    }

    @Says(promise = 26, it = "Returns how many.")
    void waysAnswers1To68() {
        due(1, "ways", 0);
        due(1, "ways", 1);
        due(1, "ways", 2);
        due(2, "ways", 3);
        due(1, "ways", 4);
        due(9, "ways", 4181);
        due(68, "ways", 4896);
        due(68, "ways", 6048);
        due(1, "ways", 6764);
    }

    @Says(promise = 26, it = "Throws `IllegalArgumentException` if number is out of range")
    void waysRefusesOtherNumbers() {
        refusesOthersThan0To6764("ways");
    }

    @Says(promise = 26, it = "The ways of a number are how many sets of steps (also with neighbours) have this worth.")
    void setsWithNeighboursAreWays() {
        // 3 is the step 2, and the neighbours 1 and 0; 8 is 4, 3 and 2, 3 and 1 and 0.
        due(2, "ways", 3);
        due(3, "ways", 8);
        due(1, "ways", 7);
    }

    @Says(promise = 27, it = "Returns the same, told by gaps.")
    void waysByGapsIsAsWays() {
        int wrong = 0;
        for (int number = 0; number <= 6764; number++) {
            if (number % 200 == 0) {
                begin();
            }
            wrong += ask("waysByGaps", number).equals(ask("ways", number)) ? 0 : 1;
        }
        same("numbers with other ways", wrong, 0);
    }

    @Says(promise = 27, it = "`number`: 0 to 6764")
    void waysByGapsTakes0To6764() {
        takes0To6764("waysByGaps", 1, 1);
    }

    @Says(promise = 27, it = "Returns how many.")
    void waysByGapsAnswers1To68() {
        due(1, "waysByGaps", 0);
        due(1, "waysByGaps", 1);
        due(2, "waysByGaps", 3);
        due(9, "waysByGaps", 4181);
        due(68, "waysByGaps", 4896);
        due(68, "waysByGaps", 6048);
        due(1, "waysByGaps", 6764);
    }

    @Says(promise = 27, it = "Throws `IllegalArgumentException` if number is out of range")
    void waysByGapsRefusesOtherNumbers() {
        refusesOthersThan0To6764("waysByGaps");
    }

    @Says(promise = 27, it = "for the lowest step s they are 1 and (s divided by 2, rounded down);")
    void theLowestStepAlone() {
        for (int step = 0; step < 18; step++) {
            due(1 + step / 2, "waysByGaps", WORTHS[step]);
        }
    }

    @Says(promise = 27, it = "for each next step, which is g above the one ahead, the first one becomes both together, and the second one the first one times ((g less 1) divided by 2, rounded down), and the second one times (g divided by 2, rounded down), together")
    void theNextStepByEachGap() {
        // Behind the step 0 the counts are 1 and 0, behind the step 2 they are 1 and 1.
        for (int gap = 2; gap < 18; gap++) {
            due(1 + (gap - 1) / 2, "waysByGaps", 1 + WORTHS[gap]);
        }
        for (int gap = 2; gap < 16; gap++) {
            due(2 + (gap - 1) / 2 + gap / 2, "waysByGaps", 3 + WORTHS[2 + gap]);
        }
    }

    @Says(promise = 27, it = "(by the counts as they were)")
    void theCountsAreThoseOfBefore() {
        // The steps 2 and 5: 1 and 1 become 2 and 1 * 1 + 1 * 1, not 2 and 2 * 1 + 1 * 1.
        due(4, "waysByGaps", 16);
        due(4, "ways", 16);
    }

    @Says(promise = 27, it = "The ways are both counts, together; those of 0 are 1.")
    void theWaysOf0Are1() {
        due(1, "waysByGaps", 0);
        due(1, "ways", 0);
        due(2, "waysByGaps", 3);
    }

    // ---- promise 28: spokenLength

    @Says(promise = 28, it = "Returns the number of words with which a tribe speaks a number.")
    void spokenLengthIsTheSameForAllTribes() {
        for (int tribe = 0; tribe < 3; tribe++) {
            due(3, "spokenLength", tribe, 100);
            due(2, "spokenLength", tribe, 4);
        }
    }

    @Says(promise = 28, it = "`tribe`: 0 to 2")
    void spokenLengthTakesTheTribes0To2() {
        due(1, "spokenLength", 0, 1);
        due(1, "spokenLength", 2, 1);
        refused(INDEX, "spokenLength", -1, 1);
        refused(INDEX, "spokenLength", 3, 1);
    }

    @Says(promise = 28, it = "`number`: 0 to 6764")
    void spokenLengthTakes0To6764() {
        for (int tribe = 0; tribe < 3; tribe++) {
            due(0, "spokenLength", tribe, 0);
            due(9, "spokenLength", tribe, 6764);
            refused(ARGUMENT, "spokenLength", tribe, -1);
            refused(ARGUMENT, "spokenLength", tribe, 6765);
        }
    }

    @Says(promise = 28, it = "Returns how many, 0 for 0.")
    void spokenLengthAnswers0To9() {
        for (int tribe = 0; tribe < 3; tribe++) {
            due(0, "spokenLength", tribe, 0);
            due(1, "spokenLength", tribe, 1);
            due(9, "spokenLength", tribe, 4180);
            due(1, "spokenLength", tribe, 4181);
            due(9, "spokenLength", tribe, 6764);
        }
    }

    @Says(promise = 28, it = "Throws `IndexOutOfBoundsException` if there is no such tribe")
    void spokenLengthRefusesOtherTribes() {
        for (int tribe : outside(0, 2)) {
            refusedByNewAndBusy(INDEX, "spokenLength", tribe, 100);
        }
    }

    @Says(promise = 28, it = "Throws `IllegalArgumentException` if number is out of range")
    void spokenLengthRefusesOtherNumbers() {
        for (int number : outside(0, 6764)) {
            refusedByNewAndBusy(ARGUMENT, "spokenLength", 2, number);
        }
    }

    @Says(promise = 28, it = "If several exceptions apply, the one that is named first in the throws clause is thrown.")
    void spokenLengthRefusesTheTribeFirst() {
        for (int tribe : outside(0, 2)) {
            for (int number : outside(0, 6764)) {
                refused(INDEX, "spokenLength", tribe, number);
            }
        }
    }

    @Says(promise = 28, it = "There are three tribes, who speak a number as a row of steps:")
    void thereAreThreeTribes() {
        int tribes = 0;
        for (int tribe = -2; tribe < 9; tribe++) {
            tribes += ask("spokenLength", tribe, 1).equals("1") ? 1 : 0;
        }
        same("the number of tribes", tribes, 3);
    }

    // ---- promise 29: spokenAt

    private void dueWords(int tribe, int number, int... words) {
        for (int place = 0; place < words.length; place++) {
            due(words[place], "spokenAt", tribe, number, place);
        }
        refused(ARGUMENT, "spokenAt", tribe, number, words.length);
        refused(ARGUMENT, "spokenAt", tribe, number, -1);
    }

    @Says(promise = 29, it = "Returns a word with which a tribe speaks a number.")
    void spokenAtAnswersEachWord() {
        dueWords(0, 100, 9, 4, 2);
        dueWords(1, 100, 2, 4, 9);
        dueWords(2, 100, 2, 2, 5);
    }

    @Says(promise = 29, it = "`tribe`: 0 to 2")
    void spokenAtTakesTheTribes0To2() {
        due(4, "spokenAt", 0, 9, 0);
        due(4, "spokenAt", 2, 9, 1);
        refused(INDEX, "spokenAt", -1, 9, 0);
        refused(INDEX, "spokenAt", 3, 9, 0);
    }

    @Says(promise = 29, it = "`number`: 0 to 6764")
    void spokenAtTakes0To6764() {
        for (int tribe = 0; tribe < 3; tribe++) {
            due(0, "spokenAt", tribe, 1, 0);
            due(tribe == 0 ? 17 : 1, "spokenAt", tribe, 6764, 0);
            refused(ARGUMENT, "spokenAt", tribe, -1, 0);
            refused(ARGUMENT, "spokenAt", tribe, 6765, 0);
        }
    }

    @Says(promise = 29, it = "`place`: from 0")
    void spokenAtTakesPlacesFrom0() {
        dueWords(0, 6764, 17, 15, 13, 11, 9, 7, 5, 3, 1);
        dueWords(1, 6764, 1, 3, 5, 7, 9, 11, 13, 15, 17);
        dueWords(2, 6764, 1, 2, 2, 2, 2, 2, 2, 2, 2);
    }

    @Says(promise = 29, it = "Returns the word: a step, or a gap.")
    void spokenAtAnswers0To17() {
        for (int tribe = 0; tribe < 3; tribe++) {
            due(0, "spokenAt", tribe, 1, 0);
            due(17, "spokenAt", tribe, 4181, 0);
        }
        due(17, "spokenAt", 2, 4182, 1);
        due(0, "spokenAt", 2, 4182, 0);
        due(2, "spokenAt", 2, 4, 1);
    }

    @Says(promise = 29, it = "Throws `IndexOutOfBoundsException` if there is no such tribe")
    void spokenAtRefusesOtherTribes() {
        for (int tribe : outside(0, 2)) {
            refusedByNewAndBusy(INDEX, "spokenAt", tribe, 100, 0);
        }
    }

    @Says(promise = 29, it = "Throws `IllegalArgumentException` if number is out of range,")
    void spokenAtRefusesOtherNumbers() {
        for (int number : outside(0, 6764)) {
            for (int tribe = 0; tribe < 3; tribe++) {
                refusedByNewAndBusy(ARGUMENT, "spokenAt", tribe, number, 0);
            }
        }
    }

    @Says(promise = 29, it = "or it has no such word")
    void spokenAtRefusesOtherPlaces() {
        for (int tribe = 0; tribe < 3; tribe++) {
            for (int place : outside(0, 2)) {
                refusedByNewAndBusy(ARGUMENT, "spokenAt", tribe, 100, place);
            }
            refused(ARGUMENT, "spokenAt", tribe, 0, 0);
            refused(ARGUMENT, "spokenAt", tribe, 1, 1);
            refused(ARGUMENT, "spokenAt", tribe, 6764, 9);
        }
    }

    @Says(promise = 29, it = "If several exceptions apply, the one that is named first in the throws clause is thrown.")
    void spokenAtRefusesTheTribeFirst() {
        for (int tribe : outside(0, 2)) {
            refused(INDEX, "spokenAt", tribe, 6765, 0);
            refused(INDEX, "spokenAt", tribe, -1, -1);
            refused(INDEX, "spokenAt", tribe, 0, 0);
            refused(INDEX, "spokenAt", tribe, 100, 3);
        }
    }

    @Says(promise = 29, it = "0: from the greatest step to the lowest; 1: from the lowest to the greatest; 2: as the tribe 1, but of each step but the first one by how much it is above the one ahead.")
    void theFirstWordOfTheTribe2IsAStep() {
        dueWords(0, 54, 7, 5, 3, 1);
        dueWords(1, 54, 1, 3, 5, 7);
        dueWords(2, 54, 1, 2, 2, 2);
        dueWords(2, 13, 5);
        dueWords(2, 4182, 0, 17);
        for (int tribe = 0; tribe < 3; tribe++) {
            dueWords(tribe, 0);
        }
    }
}
