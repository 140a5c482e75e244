/** Promises 1, 2, 19 and 22: a new object, its variables and its space. */
public final class VariablesTest {
    private static final Checks CHECKS = new Checks();

    public static void main(String[] args) {
        newObject();
        ranges();
        wrongRanges();
        eightVariables();
        fullSpace();
        badBeforeFull();
        laterVariableKeepsConstraints();
        objectsAreApart();
        CHECKS.end();
    }

    private static void newObject() {
        ExplainingSolver x = new ExplainingSolver();
        CHECKS.due("new: variables()", x.variables(), 0);
        CHECKS.due("new: constraints()", x.constraints(), 0);
        CHECKS.due("new: assumptions()", x.assumptions(), 0);
        CHECKS.due("new: space()", x.space(), 1);
        CHECKS.due("new: value(0)", x.value(0), ExplainingSolver.NONE);
        CHECKS.due("new: drop()", x.drop(), false);
        CHECKS.due("new: retract()", x.retract(), false);
        CHECKS.due("new: solve()", x.solve(), true);
    }

    private static void ranges() {
        ExplainingSolver x = new ExplainingSolver();
        int[][] ranges = {{-20, -13}, {13, 20}, {-20, -20}, {20, 20}, {0, 0}, {-3, 4}};
        int space = 1;
        for (int n = 0; n < ranges.length; n++) {
            int lo = ranges[n][0];
            int hi = ranges[n][1];
            space *= hi - lo + 1;
            CHECKS.due("variable(" + lo + ", " + hi + ")", x.variable(lo, hi), n);
            CHECKS.due("variables()", x.variables(), n + 1);
            CHECKS.due("space()", x.space(), space);
            CHECKS.due("least(" + n + ")", x.least(n), lo);
            CHECKS.due("greatest(" + n + ")", x.greatest(n), hi);
        }
    }

    private static void wrongRanges() {
        ExplainingSolver x = new ExplainingSolver();
        int[][] ranges = {
            {-21, -20}, {20, 21}, {-21, -21}, {21, 21}, {1, 0}, {20, -20}, {0, 8}, {-20, 20}, {-20, -12},
            {12, 20}, {Integer.MIN_VALUE, Integer.MAX_VALUE}, {Integer.MAX_VALUE, Integer.MIN_VALUE},
            {Integer.MIN_VALUE, Integer.MIN_VALUE}, {Integer.MAX_VALUE, Integer.MAX_VALUE},
            {0, Integer.MAX_VALUE}, {Integer.MIN_VALUE, 0},
        };
        x.solve();
        for (int[] range : ranges) {
            String call = "variable(" + range[0] + ", " + range[1] + ")";
            CHECKS.due(call, x.variable(range[0], range[1]), ExplainingSolver.BAD);
            CHECKS.due(call + ", then variables()", x.variables(), 0);
            CHECKS.due(call + ", then space()", x.space(), 1);
        }
    }

    private static void eightVariables() {
        ExplainingSolver x = new ExplainingSolver();
        for (int n = 0; n < 8; n++) {
            CHECKS.due("eight: variable(" + n + ", " + n + ")", x.variable(n, n), n);
        }
        x.solve();
        CHECKS.due("a ninth: variable(0, 0)", x.variable(0, 0), ExplainingSolver.FULL);
        CHECKS.due("a ninth: variables()", x.variables(), 8);
        CHECKS.due("a ninth: space()", x.space(), 1);
        CHECKS.dueAnswer("a ninth", x, 0, 1, 2, 3, 4, 5, 6, 7, ExplainingSolver.NONE);
    }

    private static void fullSpace() {
        ExplainingSolver x = new ExplainingSolver();
        x.variable(0, 7);
        x.variable(0, 7);
        x.variable(0, 7);
        x.variable(0, 6);
        CHECKS.due("space()", x.space(), 3584);
        x.solve();
        CHECKS.due("7168 points: variable(0, 1)", x.variable(0, 1), ExplainingSolver.FULL);
        CHECKS.due("7168 points: space()", x.space(), 3584);
        CHECKS.due("7168 points: variables()", x.variables(), 4);
        CHECKS.dueAnswer("7168 points", x, 0, 0, 0, 0);
        CHECKS.due("no more points: variable(9, 9)", x.variable(9, 9), 4);
        CHECKS.due("the answer is gone: value(0)", x.value(0), ExplainingSolver.NONE);
        ExplainingSolver y = new ExplainingSolver();
        for (int n = 0; n < 6; n++) {
            y.variable(0, 3);
        }
        CHECKS.due("4096 points: space()", y.space(), 4096);
        CHECKS.due("4096 points: variable(0, 1)", y.variable(0, 1), ExplainingSolver.FULL);
        CHECKS.due("4096 points: best(5, true)", y.best(5, true), true);
        CHECKS.dueAnswer("4096 points", y, 0, 0, 0, 0, 0, 3);
    }

    private static void badBeforeFull() {
        ExplainingSolver x = new ExplainingSolver();
        for (int n = 0; n < 8; n++) {
            x.variable(0, 0);
        }
        CHECKS.due("full: variable(1, 0)", x.variable(1, 0), ExplainingSolver.BAD);
        CHECKS.due("full: variable(0, 8)", x.variable(0, 8), ExplainingSolver.BAD);
        CHECKS.due("full: variable(0, 1)", x.variable(0, 1), ExplainingSolver.FULL);
    }

    /** The constraints of before hold on, and are dropped one by one, in the larger space. */
    private static void laterVariableKeepsConstraints() {
        ExplainingSolver x = new ExplainingSolver();
        x.variable(0, 3);
        x.clause(0, 1, -1, 0, -1, 0, 1);
        x.clause(0, 2, -1, 0, -1, 0, 1);
        x.variable(-1, 1);
        x.clause(1, 0, -1, 0, -1, 0, 1);
        x.variable(5, 6);
        CHECKS.due("three clauses: solve()", x.solve(), true);
        CHECKS.dueAnswer("three clauses", x, 2, 0, 5);
        x.drop();
        x.solve();
        CHECKS.dueAnswer("two clauses", x, 2, -1, 5);
        x.drop();
        x.solve();
        CHECKS.dueAnswer("one clause", x, 1, -1, 5);
        x.drop();
        x.solve();
        CHECKS.dueAnswer("no clause", x, 0, -1, 5);
    }

    private static void objectsAreApart() {
        ExplainingSolver x = new ExplainingSolver();
        x.variable(0, 3);
        x.solve();
        ExplainingSolver y = new ExplainingSolver();
        CHECKS.due("a second object: variables()", y.variables(), 0);
        y.variable(2, 3);
        y.clause(-1, 0, -1, 0, -1, 0, 0);
        CHECKS.due("the first object: value(0)", x.value(0), 0);
        CHECKS.due("the first object: solve()", x.solve(), true);
        CHECKS.due("the second object: solve()", y.solve(), false);
    }
}
