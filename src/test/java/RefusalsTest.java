import java.util.ArrayList;
import java.util.List;

/**
 * "A call that is refused changes nothing; BAD is told before FULL." Each refused call is made on one of two
 * objects that are alike; from then on both must answer alike, whatever is called.
 */
public final class RefusalsTest {
    private static final int BAD = ExplainingSolver.BAD;
    private static final int FULL = ExplainingSolver.FULL;
    private static final int FALSE = 0;
    private static final int LEAST_INT = Integer.MIN_VALUE;
    private static final int GREATEST_INT = Integer.MAX_VALUE;
    private static final Checks CHECKS = new Checks();

    /** A call on an object with n variables; false counts 0, true counts 1. */
    private interface Call {
        int on(ExplainingSolver x, int n);
    }

    private enum State {
        NEW, SOLVED_WITHOUT_VARIABLES, UNSOLVED, SOLVED, SOLVED_BEST, WITHOUT_SOLUTION,
        EIGHT_VARIABLES, FULL_SPACE, TWELVE_CONSTRAINTS, EIGHT_ASSUMPTIONS, ALL_FULL;
    }

    public static void main(String[] args) {
        statesAreAsNamed();
        for (State state : State.values()) {
            badVariable(state);
            badLinear(state);
            badReified(state);
            badMaximum(state);
            badElement(state);
            badSets(state);
            badClause(state);
            noVariable(state);
            questions(state);
        }
        fullOfVariables();
        fullOfConstraints();
        fullOfAssumptions();
        nothingToTakeAway();
        CHECKS.end();
    }

    private static ExplainingSolver make(State state) {
        ExplainingSolver x = new ExplainingSolver();
        switch (state) {
            case NEW:
                break;
            case SOLVED_WITHOUT_VARIABLES:
                x.solve();
                break;
            case EIGHT_VARIABLES:
                addVariables(x, 8, 1);
                addConstraints(x, 2);
                x.solve();
                break;
            case FULL_SPACE:
                addVariables(x, 6, 3);
                addConstraints(x, 2);
                x.solve();
                break;
            case ALL_FULL:
                addVariables(x, 4, 1);
                addVariables(x, 4, 3);
                addConstraints(x, 12);
                addAssumptions(x, 8);
                x.best(1, true);
                break;
            default:
                makeWithThree(x, state);
        }
        return x;
    }

    private static void makeWithThree(ExplainingSolver x, State state) {
        addVariables(x, 3, 3);
        if (state != State.SOLVED) {
            addConstraints(x, state == State.TWELVE_CONSTRAINTS ? 12 : 2);
            addAssumptions(x, state == State.EIGHT_ASSUMPTIONS ? 8 : 1);
        }
        if (state == State.WITHOUT_SOLUTION) {
            x.clause(-1, 0, -1, 0, -1, 0, 0);
        }
        if (state == State.SOLVED_BEST) {
            x.best(1, true);
        } else if (state != State.UNSOLVED) {
            x.solve();
        }
    }

    private static void addVariables(ExplainingSolver x, int count, int hi) {
        for (int n = 0; n < count; n++) {
            x.variable(0, hi);
        }
    }

    /** Most of them take solutions away from the ones before; twelve leave some. */
    private static void addConstraints(ExplainingSolver x, int count) {
        for (int n = 0; n < count; n++) {
            if (n % 2 == 0) {
                x.linear(0, 1, 1, 1, 2, -3, 2 - n / 2);
            } else {
                x.clause(1, 2 - n / 4, 2, 1, -1, 0, 2);
            }
        }
    }

    private static void addAssumptions(ExplainingSolver x, int count) {
        for (int n = 0; n < count; n++) {
            x.assume(n % 3, n % 3 == 2 ? 1 : 0, 9 - n);
        }
    }

    /** A refused call could not be seen to take an answer, or a solution, that was not there before. */
    private static void statesAreAsNamed() {
        for (State state : State.values()) {
            boolean answered = state != State.NEW && state != State.SOLVED_WITHOUT_VARIABLES
                    && state != State.UNSOLVED && state != State.WITHOUT_SOLUTION;
            CHECKS.due(state + ": has an answer", make(state).value(0) != ExplainingSolver.NONE, answered);
            CHECKS.due(state + ": solve()", make(state).solve(), state != State.WITHOUT_SOLUTION);
        }
        CHECKS.due("EIGHT_VARIABLES", make(State.EIGHT_VARIABLES).variables(), 8);
        CHECKS.due("FULL_SPACE", make(State.FULL_SPACE).space(), 4096);
        CHECKS.due("TWELVE_CONSTRAINTS", make(State.TWELVE_CONSTRAINTS).constraints(), 12);
        CHECKS.due("EIGHT_ASSUMPTIONS", make(State.EIGHT_ASSUMPTIONS).assumptions(), 8);
        ExplainingSolver full = make(State.ALL_FULL);
        CHECKS.due("ALL_FULL, variables", full.variables(), 8);
        CHECKS.due("ALL_FULL, space", full.space(), 4096);
        CHECKS.due("ALL_FULL, constraints", full.constraints(), 12);
        CHECKS.due("ALL_FULL, assumptions", full.assumptions(), 8);
    }

    /** That the call answers what is due and leaves the object as one on which it was not made. */
    private static void leaves(State state, String told, Call call, int due) {
        ExplainingSolver x = make(state);
        ExplainingSolver twin = make(state);
        CHECKS.due(state + ": " + told, call.on(x, twin.variables()), due);
        List<String> got = later(x);
        List<String> want = later(twin);
        for (int n = 0; n < want.size(); n++) {
            if (!got.get(n).equals(want.get(n))) {
                CHECKS.tell(state + ": " + told + ", later " + got.get(n) + ", due is " + want.get(n));
                return;
            }
        }
    }

    /** What an object answers from here on, until all that can be taken away is gone and more is added. */
    private static List<String> later(ExplainingSolver x) {
        List<String> told = new ArrayList<>();
        told.add(x.variables() + " variables, " + x.constraints() + " constraints, "
                + x.assumptions() + " assumptions, space " + x.space());
        told.add("the answer " + answer(x));
        for (int i = 0; i < 8; i++) {
            told.add("x(" + i + ") from " + x.least(i) + " to " + x.greatest(i));
        }
        for (int n = 0; n < 8; n++) {
            told.add("solve() " + x.solve() + answer(x) + " then retract() " + x.retract());
        }
        for (int n = 0; n < 12; n++) {
            told.add("solve() " + x.solve() + answer(x) + " then drop() " + x.drop());
        }
        told.add("best(0, true) " + x.best(0, true) + answer(x));
        told.add("variable(0, 0) " + x.variable(0, 0) + ", clause " + x.clause(-1, 0, -1, 0, -1, 0, 0)
                + ", assume(0, 0, 0) " + x.assume(0, 0, 0) + ", solve() " + x.solve());
        return told;
    }

    private static String answer(ExplainingSolver x) {
        StringBuilder text = new StringBuilder();
        for (int i = 0; i < 8; i++) {
            text.append(' ').append(x.value(i));
        }
        return text.toString();
    }

    private static int truth(boolean answered) {
        return answered ? 1 : 0;
    }

    private static void badVariable(State state) {
        leaves(state, "variable(-21, -20)", (x, n) -> x.variable(-21, -20), BAD);
        leaves(state, "variable(20, 21)", (x, n) -> x.variable(20, 21), BAD);
        leaves(state, "variable(1, 0)", (x, n) -> x.variable(1, 0), BAD);
        leaves(state, "variable(0, 8)", (x, n) -> x.variable(0, 8), BAD);
        leaves(state, "variable of all ints", (x, n) -> x.variable(LEAST_INT, GREATEST_INT), BAD);
    }

    private static void badLinear(State state) {
        leaves(state, "linear, i", (x, n) -> x.linear(n, 1, -1, 1, -1, 1, -9), BAD);
        leaves(state, "linear, j", (x, n) -> x.linear(-1, 1, n, 1, -1, 1, -9), BAD);
        leaves(state, "linear, k", (x, n) -> x.linear(-1, 1, -1, 1, -2, 1, -9), BAD);
        leaves(state, "linear, a", (x, n) -> x.linear(n - 1, 10, -1, 1, -1, 1, -9), BAD);
        leaves(state, "linear, b", (x, n) -> x.linear(-1, 1, n - 1, -10, -1, 1, -9), BAD);
        leaves(state, "linear, c", (x, n) -> x.linear(-1, 1, -1, 1, -1, 10, -9), BAD);
        leaves(state, "linear, bound 1001", (x, n) -> x.linear(-1, 1, -1, 1, -1, 1, 1001), BAD);
        leaves(state, "linear, bound -1001", (x, n) -> x.linear(-1, 1, -1, 1, -1, 1, -1001), BAD);
    }

    private static void badReified(State state) {
        leaves(state, "reified, r", (x, n) -> x.reified(n, 0, 0, 0), BAD);
        leaves(state, "reified, i", (x, n) -> x.reified(0, -1, 0, 0), BAD);
        leaves(state, "reified, j", (x, n) -> x.reified(0, 0, n, 0), BAD);
        leaves(state, "reified, c 101", (x, n) -> x.reified(0, 0, 0, 101), BAD);
        leaves(state, "reified, c -101", (x, n) -> x.reified(0, 0, 0, -101), BAD);
    }

    private static void badMaximum(State state) {
        leaves(state, "maximum, r", (x, n) -> x.maximum(-1, 0, 0, 0), BAD);
        leaves(state, "maximum, i", (x, n) -> x.maximum(0, -1, 0, 0), BAD);
        leaves(state, "maximum, j", (x, n) -> x.maximum(0, 0, n, 0), BAD);
        leaves(state, "maximum, k", (x, n) -> x.maximum(0, 0, 0, -2), BAD);
    }

    private static void badElement(State state) {
        leaves(state, "element, r", (x, n) -> x.element(n, 0, 0), BAD);
        leaves(state, "element, i", (x, n) -> x.element(0, n, 0), BAD);
        leaves(state, "element, no part", (x, n) -> x.element(0, -1, 0), BAD);
    }

    private static void badSets(State state) {
        leaves(state, "different, one too many", (x, n) -> x.different(1 << n), BAD);
        leaves(state, "different(-1)", (x, n) -> x.different(-1), BAD);
        leaves(state, "cumulative, one too many", (x, n) -> x.cumulative(1 << n, -1, -1, 0), BAD);
        leaves(state, "cumulative(-1, ..)", (x, n) -> x.cumulative(-1, -1, -1, 0), BAD);
        leaves(state, "cumulative, capacity -1", (x, n) -> x.cumulative(0, -1, -1, -1), BAD);
        leaves(state, "cumulative, capacity 101", (x, n) -> x.cumulative((1 << n) - 1, -1, -1, 101), BAD);
    }

    private static void badClause(State state) {
        leaves(state, "clause, i", (x, n) -> x.clause(n, 0, -1, 0, -1, 0, 0), BAD);
        leaves(state, "clause, j", (x, n) -> x.clause(-1, 0, -2, 0, -1, 0, 0), BAD);
        leaves(state, "clause, k", (x, n) -> x.clause(-1, 0, -1, 0, n, 0, 0), BAD);
        leaves(state, "clause, v", (x, n) -> x.clause(-1, 101, -1, 0, -1, 0, 0), BAD);
        leaves(state, "clause, w", (x, n) -> x.clause(-1, 0, n - 1, -101, -1, 0, 0), BAD);
        leaves(state, "clause, u", (x, n) -> x.clause(-1, 0, -1, 0, n - 1, 101, 0), BAD);
        leaves(state, "clause, how 8", (x, n) -> x.clause(-1, 0, -1, 0, -1, 0, 8), BAD);
        leaves(state, "clause, how -1", (x, n) -> x.clause(-1, 0, -1, 0, -1, 0, -1), BAD);
    }

    /** assume: "False when there is no variable i"; best: "False, changing nothing, when there is no variable i." */
    private static void noVariable(State state) {
        leaves(state, "assume(n, ..)", (x, n) -> truth(x.assume(n, 0, 0)), FALSE);
        leaves(state, "assume(-1, ..)", (x, n) -> truth(x.assume(-1, 0, 0)), FALSE);
        leaves(state, "assume(least int, ..)", (x, n) -> truth(x.assume(LEAST_INT, 0, 0)), FALSE);
        leaves(state, "assume(greatest int, ..)", (x, n) -> truth(x.assume(GREATEST_INT, 0, 0)), FALSE);
        leaves(state, "best(n, true)", (x, n) -> truth(x.best(n, true)), FALSE);
        leaves(state, "best(-1, false)", (x, n) -> truth(x.best(-1, false)), FALSE);
        leaves(state, "best(least int, true)", (x, n) -> truth(x.best(LEAST_INT, true)), FALSE);
        leaves(state, "best(greatest int, false)", (x, n) -> truth(x.best(GREATEST_INT, false)), FALSE);
    }

    /** "other calls leave it": what only asks changes nothing, be there a variable i or not. */
    private static void questions(State state) {
        int[] asked = {-1, 0, 2, 7, 8, LEAST_INT, GREATEST_INT};
        for (int i : asked) {
            leaves(state, "value(" + i + ")", (x, n) -> x.value(i), make(state).value(i));
            leaves(state, "least(" + i + ")", (x, n) -> x.least(i), make(state).least(i));
            leaves(state, "greatest(" + i + ")", (x, n) -> x.greatest(i), make(state).greatest(i));
            leaves(state, "implies(" + i + ", 1)", (x, n) -> truth(x.implies(i, 1)),
                    truth(make(state).implies(i, 1)));
        }
        leaves(state, "variables()", (x, n) -> x.variables(), make(state).variables());
        leaves(state, "constraints()", (x, n) -> x.constraints(), make(state).constraints());
        leaves(state, "assumptions()", (x, n) -> x.assumptions(), make(state).assumptions());
        leaves(state, "space()", (x, n) -> x.space(), make(state).space());
    }

    private static void fullOfVariables() {
        leaves(State.EIGHT_VARIABLES, "variable(0, 0)", (x, n) -> x.variable(0, 0), FULL);
        leaves(State.EIGHT_VARIABLES, "variable(0, 1)", (x, n) -> x.variable(0, 1), FULL);
        leaves(State.FULL_SPACE, "variable(0, 1)", (x, n) -> x.variable(0, 1), FULL);
        leaves(State.FULL_SPACE, "variable(13, 20)", (x, n) -> x.variable(13, 20), FULL);
        leaves(State.ALL_FULL, "variable(0, 0)", (x, n) -> x.variable(0, 0), FULL);
        leaves(State.ALL_FULL, "variable(-20, -13)", (x, n) -> x.variable(-20, -13), FULL);
    }

    private static void fullOfConstraints() {
        State[] full = {State.TWELVE_CONSTRAINTS, State.ALL_FULL};
        for (State state : full) {
            leaves(state, "linear, a 13th", (x, n) -> x.linear(0, 1, 1, 1, 2, 1, -9), FULL);
            leaves(state, "reified, a 13th", (x, n) -> x.reified(0, 1, 2, 100), FULL);
            leaves(state, "maximum, a 13th", (x, n) -> x.maximum(0, 1, 2, -1), FULL);
            leaves(state, "element, a 13th", (x, n) -> x.element(0, 1, -1), FULL);
            leaves(state, "different, a 13th", (x, n) -> x.different((1 << n) - 1), FULL);
            leaves(state, "cumulative, a 13th", (x, n) -> x.cumulative(7, -1, -1, 0), FULL);
            leaves(state, "clause, a 13th", (x, n) -> x.clause(-1, 0, -1, 0, -1, 0, 0), FULL);
        }
    }

    private static void fullOfAssumptions() {
        State[] full = {State.EIGHT_ASSUMPTIONS, State.ALL_FULL};
        for (State state : full) {
            leaves(state, "assume, a ninth", (x, n) -> truth(x.assume(0, 1, 1)), FALSE);
            leaves(state, "assume, a ninth of nothing", (x, n) -> truth(x.assume(0, 1, 0)), FALSE);
        }
    }

    /** drop and retract: "false when there is none". */
    private static void nothingToTakeAway() {
        State[] empty = {State.NEW, State.SOLVED_WITHOUT_VARIABLES, State.SOLVED};
        for (State state : empty) {
            leaves(state, "drop()", (x, n) -> truth(x.drop()), FALSE);
            leaves(state, "retract()", (x, n) -> truth(x.retract()), FALSE);
        }
        leaves(State.EIGHT_VARIABLES, "retract()", (x, n) -> truth(x.retract()), FALSE);
        leaves(State.FULL_SPACE, "retract()", (x, n) -> truth(x.retract()), FALSE);
    }
}
