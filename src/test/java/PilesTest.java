/** Promises 10, 11, 12, 20 and 21: what takes constraints away, and the pile of assumptions. */
public final class PilesTest {
    private static final int NONE = ExplainingSolver.NONE;
    private static final Checks CHECKS = new Checks();

    public static void main(String[] args) {
        drop();
        dropOfNothing();
        dropGivesPointsBackOnce();
        assume();
        assumeAnyInts();
        assumeRefused();
        retract();
        retractOfNothing();
        CHECKS.end();
    }

    private static ExplainingSolver twoVariables() {
        ExplainingSolver x = new ExplainingSolver();
        x.variable(0, 4);
        x.variable(0, 4);
        return x;
    }

    private static void drop() {
        ExplainingSolver x = twoVariables();
        CHECKS.due("constraints()", x.constraints(), 0);
        CHECKS.due("linear", x.linear(0, -1, -1, 0, -1, 0, -2), 0);
        CHECKS.due("different", x.different(3), 1);
        CHECKS.due("constraints()", x.constraints(), 2);
        x.solve();
        CHECKS.dueAnswer("both", x, 2, 0);
        CHECKS.due("drop()", x.drop(), true);
        CHECKS.due("constraints()", x.constraints(), 1);
        CHECKS.dueAnswer("drop() takes the answer", x, NONE, NONE);
        x.best(1, true);
        CHECKS.dueAnswer("only the first", x, 2, 4);
        CHECKS.due("a number is given again", x.clause(0, 3, -1, 0, -1, 0, 1), 1);
        x.solve();
        CHECKS.dueAnswer("another second", x, 3, 0);
        CHECKS.due("drop()", x.drop(), true);
        CHECKS.due("drop()", x.drop(), true);
        CHECKS.due("drop()", x.drop(), false);
        x.solve();
        CHECKS.dueAnswer("none", x, 0, 0);
    }

    private static void dropOfNothing() {
        ExplainingSolver x = twoVariables();
        x.assume(0, 1, 4);
        x.solve();
        CHECKS.due("nothing there: drop()", x.drop(), false);
        CHECKS.due("nothing there: constraints()", x.constraints(), 0);
        CHECKS.due("nothing there: assumptions()", x.assumptions(), 1);
        CHECKS.dueAnswer("nothing there", x, 1, 0);
    }

    /** A point at which two constraints fail stays lost until both are gone. */
    private static void dropGivesPointsBackOnce() {
        ExplainingSolver x = twoVariables();
        x.clause(0, 1, -1, 0, -1, 0, 1);
        x.clause(0, 1, -1, 0, -1, 0, 1);
        x.drop();
        CHECKS.due("one of two alike: least(0)", x.least(0), 1);
        x.drop();
        CHECKS.due("none of two alike: least(0)", x.least(0), 0);
    }

    private static void assume() {
        ExplainingSolver x = twoVariables();
        x.different(3);
        x.solve();
        CHECKS.due("assume(1, 2, 3)", x.assume(1, 2, 3), true);
        CHECKS.dueAnswer("assume takes the answer", x, NONE, NONE);
        CHECKS.due("assumptions()", x.assumptions(), 1);
        CHECKS.due("constraints()", x.constraints(), 1);
        CHECKS.due("space()", x.space(), 25);
        x.solve();
        CHECKS.dueAnswer("1 from 2 to 3", x, 0, 2);
        CHECKS.due("assume(0, 2, 9)", x.assume(0, 2, 9), true);
        x.solve();
        CHECKS.dueAnswer("0 from 2 on", x, 2, 3);
        CHECKS.due("assume(1, 0, 2)", x.assume(1, 0, 2), true);
        x.solve();
        CHECKS.dueAnswer("1 is 2", x, 3, 2);
        CHECKS.due("assume(0, 3, 3)", x.assume(0, 3, 3), true);
        CHECKS.due("greatest(0)", x.greatest(0), 3);
        CHECKS.due("assume(0, 4, 4)", x.assume(0, 4, 4), true);
        CHECKS.due("against one another: solve()", x.solve(), false);
        CHECKS.due("assumptions()", x.assumptions(), 5);
        CHECKS.due("a variable may still be added", x.variable(0, 1), 2);
        CHECKS.due("assumptions stay: solve()", x.solve(), false);
    }

    private static void assumeAnyInts() {
        ExplainingSolver x = twoVariables();
        CHECKS.due("all ints", x.assume(0, Integer.MIN_VALUE, Integer.MAX_VALUE), true);
        CHECKS.due("all ints: least(0)", x.least(0), 0);
        CHECKS.due("all ints: greatest(0)", x.greatest(0), 4);
        CHECKS.due("lo above hi", x.assume(0, Integer.MAX_VALUE, Integer.MIN_VALUE), true);
        CHECKS.due("lo above hi: solve()", x.solve(), false);
        x.retract();
        CHECKS.due("3 to 2", x.assume(1, 3, 2), true);
        CHECKS.due("3 to 2: solve()", x.solve(), false);
        x.retract();
        CHECKS.due("4 on", x.assume(1, 4, Integer.MAX_VALUE), true);
        CHECKS.due("4 on: least(1)", x.least(1), 4);
        CHECKS.due("beyond the range", x.assume(1, 5, 9), true);
        CHECKS.due("beyond the range: solve()", x.solve(), false);
    }

    private static void assumeRefused() {
        ExplainingSolver x = twoVariables();
        x.solve();
        int[] wrong = {2, -1, 8, Integer.MIN_VALUE, Integer.MAX_VALUE};
        for (int i : wrong) {
            CHECKS.due("assume(" + i + ", 0, 1)", x.assume(i, 0, 1), false);
        }
        CHECKS.due("refused: assumptions()", x.assumptions(), 0);
        CHECKS.dueAnswer("refused", x, 0, 0);
        for (int n = 0; n < 8; n++) {
            CHECKS.due("assumption " + n, x.assume(n % 2, 1, 4), true);
        }
        x.solve();
        CHECKS.due("a ninth", x.assume(0, 2, 4), false);
        CHECKS.due("a ninth: assumptions()", x.assumptions(), 8);
        CHECKS.dueAnswer("a ninth", x, 1, 1);
        CHECKS.due("a ninth: least(0)", x.least(0), 1);
    }

    private static void retract() {
        ExplainingSolver x = twoVariables();
        x.assume(0, 1, 4);
        x.assume(0, 2, 4);
        x.assume(1, 3, 4);
        x.solve();
        CHECKS.dueAnswer("three", x, 2, 3);
        CHECKS.due("retract()", x.retract(), true);
        CHECKS.dueAnswer("retract() takes the answer", x, NONE, NONE);
        CHECKS.due("assumptions()", x.assumptions(), 2);
        x.solve();
        CHECKS.dueAnswer("two", x, 2, 0);
        CHECKS.due("retract()", x.retract(), true);
        x.solve();
        CHECKS.dueAnswer("one", x, 1, 0);
        CHECKS.due("retract()", x.retract(), true);
        x.solve();
        CHECKS.dueAnswer("none", x, 0, 0);
        CHECKS.due("assumptions()", x.assumptions(), 0);
    }

    private static void retractOfNothing() {
        ExplainingSolver x = twoVariables();
        x.different(3);
        x.solve();
        CHECKS.due("nothing there: retract()", x.retract(), false);
        CHECKS.due("nothing there: assumptions()", x.assumptions(), 0);
        CHECKS.due("nothing there: constraints()", x.constraints(), 1);
        CHECKS.dueAnswer("nothing there", x, 0, 1);
    }
}
