/** Counts and prints the calls whose answer is not the one that is due. */
final class Checks {
    private int wrong;

    void due(String call, int got, int want) {
        if (got != want) {
            tell(call + " answered " + got + ", due is " + want);
        }
    }

    void due(String call, boolean got, boolean want) {
        if (got != want) {
            tell(call + " answered " + got + ", due is " + want);
        }
    }

    /** That the answer of x gives its variables just these values, from variable 0 on. */
    void dueAnswer(String when, ExplainingSolver x, int... values) {
        for (int i = 0; i < values.length; i++) {
            due(when + ": value(" + i + ")", x.value(i), values[i]);
        }
    }

    /** An object with variables that have one value each. */
    static ExplainingSolver fixed(int... values) {
        ExplainingSolver x = new ExplainingSolver();
        for (int value : values) {
            x.variable(value, value);
        }
        return x;
    }

    /** That the constraint just added is number 0, and whether it holds in the one point there is. */
    void dueHolds(String call, ExplainingSolver x, int number, boolean want) {
        due(call, number, 0);
        due(call + ", then solve()", x.solve(), want);
        x.drop();
    }

    void tell(String fault) {
        wrong++;
        System.out.println(fault);
    }

    void end() {
        if (wrong != 0) {
            System.out.println(wrong + " answers are not as due");
            System.exit(1);
        }
    }
}
