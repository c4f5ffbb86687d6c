/** Counts answers, and prints those that are not as due. */
final class Report {
    private static final int MAX_PRINTED = 40;
    private final String name;
    private int right;
    private int wrong;

    Report(String name) {
        this.name = name;
    }

    void due(String what, Object got, Object due) {
        if (String.valueOf(got).equals(String.valueOf(due))) {
            right++;
            return;
        }
        wrong++;
        if (wrong <= MAX_PRINTED) {
            System.out.println(what + " answered " + got + ", due is " + due);
        }
    }

    boolean hasWrong() {
        return wrong > 0;
    }

    void end() {
        System.out.println(name + ": " + right + " answers as due, " + wrong + " not");
        if (wrong > 0 || right == 0) {
            System.exit(1);
        }
    }
}
