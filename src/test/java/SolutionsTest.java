/** Promises 13 to 18: the first solution, the best one, the answer, and what all have in common. */
public final class SolutionsTest {
    private static final int NONE = ExplainingSolver.NONE;
    private static final int[] NO_VARIABLE = {-1, 2, 8, 1000, Integer.MIN_VALUE, Integer.MAX_VALUE};
    private static final Checks CHECKS = new Checks();

    public static void main(String[] args) {
        solve();
        solveWithoutVariables();
        best();
        bestWithoutSolution();
        bestOfNoVariable();
        value();
        leastAndGreatest();
        implies();
        queriesLeaveTheAnswer();
        CHECKS.end();
    }

    /** x(0) from -3 to 4, x(1) from -3 to 4, and x(0) + x(1) is 2 or 3. */
    private static ExplainingSolver sums() {
        ExplainingSolver x = new ExplainingSolver();
        x.variable(-3, 4);
        x.variable(-3, 4);
        x.linear(0, 1, 1, 1, -1, 0, 3);
        x.linear(0, -1, 1, -1, -1, 0, -2);
        return x;
    }

    private static void neverHolds(ExplainingSolver x) {
        x.clause(-1, 0, -1, 0, -1, 0, 0);
    }

    private static void solve() {
        ExplainingSolver x = sums();
        CHECKS.due("solve()", x.solve(), true);
        CHECKS.dueAnswer("the first variable counts first", x, -2, 4);
        x.assume(0, 0, 4);
        CHECKS.due("solve()", x.solve(), true);
        CHECKS.dueAnswer("then the second", x, 0, 2);
        neverHolds(x);
        CHECKS.due("solve()", x.solve(), false);
        CHECKS.dueAnswer("no solution", x, NONE, NONE);
        x.drop();
        CHECKS.due("solve()", x.solve(), true);
        CHECKS.due("solve() again", x.solve(), true);
        CHECKS.dueAnswer("again", x, 0, 2);
    }

    private static void solveWithoutVariables() {
        ExplainingSolver x = new ExplainingSolver();
        CHECKS.due("no variables: solve()", x.solve(), true);
        CHECKS.due("no variables: value(0)", x.value(0), NONE);
        neverHolds(x);
        CHECKS.due("no variables, never holds: solve()", x.solve(), false);
        CHECKS.due("no variables: best(0, true)", x.best(0, true), false);
        CHECKS.due("no variables: least(0)", x.least(0), NONE);
        CHECKS.due("no variables: greatest(0)", x.greatest(0), NONE);
        CHECKS.due("no variables: implies(0, 0)", x.implies(0, 0), false);
    }

    private static void best() {
        ExplainingSolver x = sums();
        CHECKS.due("best(1, false)", x.best(1, false), true);
        CHECKS.dueAnswer("x(1) is least", x, 4, -2);
        CHECKS.due("best(1, true)", x.best(1, true), true);
        CHECKS.dueAnswer("x(1) is greatest", x, -2, 4);
        CHECKS.due("best(0, true)", x.best(0, true), true);
        CHECKS.dueAnswer("x(0) is greatest", x, 4, -2);
        CHECKS.due("best(0, false)", x.best(0, false), true);
        CHECKS.dueAnswer("x(0) is least", x, -2, 4);
        x.assume(1, -1, 1);
        CHECKS.due("best(1, false)", x.best(1, false), true);
        CHECKS.dueAnswer("the first of two with -1", x, 3, -1);
        CHECKS.due("best(1, true)", x.best(1, true), true);
        CHECKS.dueAnswer("the first of two with 1", x, 1, 1);
        CHECKS.due("solve()", x.solve(), true);
        CHECKS.dueAnswer("the first of all", x, 1, 1);
    }

    private static void bestWithoutSolution() {
        ExplainingSolver x = sums();
        neverHolds(x);
        CHECKS.due("never holds: best(0, true)", x.best(0, true), false);
        CHECKS.due("never holds: best(1, false)", x.best(1, false), false);
        CHECKS.dueAnswer("never holds", x, NONE, NONE);
    }

    private static void bestOfNoVariable() {
        ExplainingSolver x = sums();
        x.solve();
        for (int i : NO_VARIABLE) {
            CHECKS.due("best(" + i + ", true)", x.best(i, true), false);
            CHECKS.due("best(" + i + ", false)", x.best(i, false), false);
            CHECKS.dueAnswer("best(" + i + ", ..) changes nothing", x, -2, 4);
        }
    }

    private static void value() {
        ExplainingSolver x = sums();
        CHECKS.dueAnswer("before solve()", x, NONE, NONE);
        x.solve();
        CHECKS.dueAnswer("after solve()", x, -2, 4);
        for (int i : NO_VARIABLE) {
            CHECKS.due("value(" + i + ")", x.value(i), NONE);
        }
        x.variable(0, 0);
        CHECKS.dueAnswer("after variable", x, NONE, NONE, NONE);
        x.best(2, true);
        CHECKS.dueAnswer("after best", x, -2, 4, 0);
    }

    private static void leastAndGreatest() {
        ExplainingSolver x = sums();
        CHECKS.due("least(0)", x.least(0), -2);
        CHECKS.due("greatest(0)", x.greatest(0), 4);
        CHECKS.due("least(1)", x.least(1), -2);
        x.assume(0, -1, 2);
        CHECKS.due("0 from -1 to 2: least(0)", x.least(0), -1);
        CHECKS.due("0 from -1 to 2: greatest(0)", x.greatest(0), 2);
        CHECKS.due("0 from -1 to 2: least(1)", x.least(1), 0);
        CHECKS.due("0 from -1 to 2: greatest(1)", x.greatest(1), 4);
        for (int i : NO_VARIABLE) {
            CHECKS.due("least(" + i + ")", x.least(i), NONE);
            CHECKS.due("greatest(" + i + ")", x.greatest(i), NONE);
        }
        neverHolds(x);
        CHECKS.due("never holds: least(0)", x.least(0), NONE);
        CHECKS.due("never holds: greatest(1)", x.greatest(1), NONE);
    }

    private static void implies() {
        ExplainingSolver x = sums();
        x.assume(0, -1, 2);
        CHECKS.due("implies(0, 2)", x.implies(0, 2), true);
        CHECKS.due("implies(0, 3)", x.implies(0, 3), true);
        CHECKS.due("implies(0, 1)", x.implies(0, 1), false);
        CHECKS.due("implies(1, 4)", x.implies(1, 4), true);
        CHECKS.due("implies(1, 3)", x.implies(1, 3), false);
        CHECKS.due("implies(0, greatest int)", x.implies(0, Integer.MAX_VALUE), true);
        CHECKS.due("implies(0, least int)", x.implies(0, Integer.MIN_VALUE), false);
        for (int i : NO_VARIABLE) {
            CHECKS.due("implies(" + i + ", 20)", x.implies(i, 20), false);
        }
        neverHolds(x);
        CHECKS.due("never holds: implies(0, -20)", x.implies(0, -20), true);
        CHECKS.due("never holds: implies(1, least int)", x.implies(1, Integer.MIN_VALUE), true);
        CHECKS.due("never holds: implies(2, 20)", x.implies(2, 20), false);
    }

    private static void queriesLeaveTheAnswer() {
        ExplainingSolver x = sums();
        x.greatest(0);
        CHECKS.dueAnswer("greatest makes no answer", x, NONE, NONE);
        x.best(1, false);
        x.least(0);
        x.least(1);
        x.greatest(0);
        x.greatest(1);
        x.implies(0, 0);
        x.implies(1, 9);
        x.variables();
        x.constraints();
        x.assumptions();
        x.space();
        CHECKS.dueAnswer("all queries", x, 4, -2);
        x.retract();
        x.variable(5, 4);
        x.different(64);
        CHECKS.dueAnswer("calls that changed nothing", x, 4, -2);
    }
}
