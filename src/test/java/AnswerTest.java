/**
 * "THE ANSWER is the solution that solve() or best() found latest (other calls leave it); there is none at
 * first, after a call of solve or best that found none, and after every call that added a variable, a
 * constraint or an assumption, or took one away." Promise 15 tells it.
 */
public final class AnswerTest {
    private static final int NONE = ExplainingSolver.NONE;
    private static final Checks CHECKS = new Checks();

    private interface Call {
        void on(ExplainingSolver x);
    }

    public static void main(String[] args) {
        noneAtFirst();
        theLatestOne();
        noneWhenNoneWasFound();
        noneAfterAVariable();
        noneAfterAConstraint();
        noneAfterAnAssumption();
        noneAfterDrop();
        noneAfterRetract();
        othersLeaveIt();
        othersMakeNone();
        noVariableHasNoValue();
        answerWithoutVariables();
        CHECKS.end();
    }

    /** x(0) and x(1) from 0 to 2, and not the same; one constraint and one assumption, which all meet. */
    private static ExplainingSolver pair() {
        ExplainingSolver x = new ExplainingSolver();
        x.variable(0, 2);
        x.variable(0, 2);
        x.different(3);
        x.assume(0, 0, 2);
        return x;
    }

    /** That the call takes the answer away, and that it does not come back by itself. */
    private static void takesTheAnswer(String told, Call call) {
        ExplainingSolver x = pair();
        x.solve();
        CHECKS.dueAnswer("before " + told, x, 0, 1);
        call.on(x);
        CHECKS.dueAnswer("after " + told, x, NONE, NONE);
        x.least(0);
        x.implies(1, 2);
        CHECKS.dueAnswer("some questions after " + told, x, NONE, NONE);
        x.solve();
        CHECKS.dueAnswer("solve() after " + told, x, 0, 1);
    }

    private static void noneAtFirst() {
        ExplainingSolver x = new ExplainingSolver();
        CHECKS.due("at first: value(0)", x.value(0), NONE);
        x.variable(0, 2);
        CHECKS.due("at first, with a variable: value(0)", x.value(0), NONE);
        CHECKS.dueAnswer("at first, with constraint and assumption", pair(), NONE, NONE);
    }

    private static void theLatestOne() {
        ExplainingSolver x = pair();
        x.solve();
        CHECKS.dueAnswer("solve()", x, 0, 1);
        x.best(0, true);
        CHECKS.dueAnswer("solve(), best(0, true)", x, 2, 0);
        x.best(1, true);
        CHECKS.dueAnswer("solve(), best(0, true), best(1, true)", x, 0, 2);
        x.best(1, false);
        CHECKS.dueAnswer("then best(1, false)", x, 1, 0);
        x.solve();
        CHECKS.dueAnswer("then solve()", x, 0, 1);
    }

    private static void noneWhenNoneWasFound() {
        ExplainingSolver x = pair();
        x.clause(-1, 0, -1, 0, -1, 0, 0);
        CHECKS.due("found none: solve()", x.solve(), false);
        CHECKS.dueAnswer("found none: solve()", x, NONE, NONE);
        CHECKS.due("found none: best(0, false)", x.best(0, false), false);
        CHECKS.dueAnswer("found none: best(0, false)", x, NONE, NONE);
        CHECKS.due("found none: best(1, true)", x.best(1, true), false);
        CHECKS.dueAnswer("found none: best(1, true)", x, NONE, NONE);
        x.drop();
        CHECKS.dueAnswer("the constraint is gone, none was looked for", x, NONE, NONE);
        CHECKS.due("the constraint is gone: best(0, true)", x.best(0, true), true);
        CHECKS.dueAnswer("the constraint is gone: best(0, true)", x, 2, 0);
    }

    private static void noneAfterAVariable() {
        takesTheAnswer("a variable", x -> x.variable(0, 2));
        takesTheAnswer("a variable of one number", x -> x.variable(9, 9));
    }

    /** Each of these holds in the answer that there was. */
    private static void noneAfterAConstraint() {
        takesTheAnswer("linear", x -> x.linear(0, 1, 1, 1, -1, 0, 1));
        takesTheAnswer("linear without parts", x -> x.linear(-1, 0, -1, 0, -1, 0, 0));
        takesTheAnswer("reified", x -> x.reified(1, 0, 1, 0));
        takesTheAnswer("maximum", x -> x.maximum(1, 0, 1, -1));
        takesTheAnswer("element", x -> x.element(1, 0, 1));
        takesTheAnswer("different", x -> x.different(3));
        takesTheAnswer("different of none", x -> x.different(0));
        takesTheAnswer("cumulative", x -> x.cumulative(3, 0x11, 0x11, 1));
        takesTheAnswer("cumulative of none", x -> x.cumulative(0, 0, 0, 0));
        takesTheAnswer("clause", x -> x.clause(0, 0, -1, 0, -1, 0, 0));
    }

    private static void noneAfterAnAssumption() {
        takesTheAnswer("an assumption", x -> x.assume(0, 0, 0));
        takesTheAnswer("an assumption of all ints", x -> x.assume(1, Integer.MIN_VALUE, Integer.MAX_VALUE));
    }

    private static void noneAfterDrop() {
        ExplainingSolver x = pair();
        x.best(1, true);
        CHECKS.due("drop()", x.drop(), true);
        CHECKS.dueAnswer("after drop()", x, NONE, NONE);
        x.best(1, true);
        CHECKS.due("drop() of nothing", x.drop(), false);
        CHECKS.dueAnswer("after drop() of nothing", x, 0, 2);
    }

    private static void noneAfterRetract() {
        ExplainingSolver x = pair();
        x.best(1, true);
        CHECKS.due("retract()", x.retract(), true);
        CHECKS.dueAnswer("after retract()", x, NONE, NONE);
        x.best(1, true);
        CHECKS.due("retract() of nothing", x.retract(), false);
        CHECKS.dueAnswer("after retract() of nothing", x, 0, 2);
    }

    private static void leavesTheAnswer(String told, Call call) {
        ExplainingSolver x = pair();
        x.best(0, true);
        call.on(x);
        CHECKS.dueAnswer("after " + told, x, 2, 0);
    }

    private static void othersLeaveIt() {
        leavesTheAnswer("value", x -> x.value(1));
        leavesTheAnswer("least", x -> x.least(0));
        leavesTheAnswer("greatest", x -> x.greatest(1));
        leavesTheAnswer("implies", x -> x.implies(1, 1));
        leavesTheAnswer("variables", x -> x.variables());
        leavesTheAnswer("constraints", x -> x.constraints());
        leavesTheAnswer("assumptions", x -> x.assumptions());
        leavesTheAnswer("space", x -> x.space());
    }

    private static void othersMakeNone() {
        ExplainingSolver x = pair();
        x.least(0);
        CHECKS.dueAnswer("least makes none", x, NONE, NONE);
        x.greatest(0);
        CHECKS.dueAnswer("greatest makes none", x, NONE, NONE);
        x.implies(0, 0);
        CHECKS.dueAnswer("implies makes none", x, NONE, NONE);
        x.best(2, true);
        CHECKS.dueAnswer("best of no variable makes none", x, NONE, NONE);
    }

    /** value: "NONE when there is no answer, or no variable i." */
    private static void noVariableHasNoValue() {
        ExplainingSolver x = pair();
        x.solve();
        int[] noVariable = {-1, 2, 7, 8, 9, Integer.MIN_VALUE, Integer.MAX_VALUE};
        for (int i : noVariable) {
            CHECKS.due("two variables: value(" + i + ")", x.value(i), NONE);
        }
        CHECKS.due("two variables: value(1)", x.value(1), 1);
    }

    private static void answerWithoutVariables() {
        ExplainingSolver x = new ExplainingSolver();
        CHECKS.due("no variables: solve()", x.solve(), true);
        CHECKS.due("no variables: value(0)", x.value(0), NONE);
        CHECKS.due("no variables: value(-1)", x.value(-1), NONE);
        x.variable(-20, -20);
        CHECKS.due("then a variable: value(0)", x.value(0), NONE);
        CHECKS.due("then a variable: solve()", x.solve(), true);
        CHECKS.due("then a variable, solved: value(0)", x.value(0), -20);
    }
}
