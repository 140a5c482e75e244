/**
 * Promises 1 and 10 to 22 where there is nothing, as much as there can be, only one solution or none, and up
 * to the last call that is promised.
 */
public final class SolutionsAtEdgesTest {
    private static final int NONE = ExplainingSolver.NONE;
    private static final int LEAST_INT = Integer.MIN_VALUE;
    private static final int GREATEST_INT = Integer.MAX_VALUE;
    private static final int[] FAR_OUT = {-1, 8, 9, 1000, LEAST_INT, GREATEST_INT};
    private static final Checks CHECKS = new Checks();

    public static void main(String[] args) {
        newObjectHasNothing();
        noVariables();
        eachVariableIsThereOnlyOnceAdded();
        onlyTheFirstPoint();
        onlyTheLastPoint();
        beforeIsToldByTheFirstVariableThatDiffers();
        bestOfManyAlike();
        leastAndGreatestAtTheEnds();
        leastAndGreatestWithoutSolution();
        impliesAtItsNumber();
        impliesWithoutSolution();
        assumeTakesBothEnds();
        assumeAnyInts();
        eightAssumptionsNotNine();
        retractTakesTheTopmost();
        dropTakesTheLatest();
        constraintsOfBeforeHoldWhenTheSpaceGrows();
        countsFromNoneToFull();
        allFull();
        upToTheLastCall();
        CHECKS.end();
    }

    private static void neverHolds(ExplainingSolver x) {
        x.clause(-1, 0, -1, 0, -1, 0, 0);
    }

    /** "No variables, constraints or assumptions." */
    private static void newObjectHasNothing() {
        ExplainingSolver x = new ExplainingSolver();
        CHECKS.due("new: variables()", x.variables(), 0);
        CHECKS.due("new: constraints()", x.constraints(), 0);
        CHECKS.due("new: assumptions()", x.assumptions(), 0);
        CHECKS.due("new: space()", x.space(), 1);
        CHECKS.due("new: drop()", x.drop(), false);
        CHECKS.due("new: retract()", x.retract(), false);
        CHECKS.due("new: assume(0, 0, 0)", x.assume(0, 0, 0), false);
        CHECKS.due("new: the first variable", x.variable(0, 0), 0);
        CHECKS.due("new: the first constraint", x.different(1), 0);
    }

    /** The one point without variables is a solution, unless a constraint without variables fails. */
    private static void noVariables() {
        ExplainingSolver x = new ExplainingSolver();
        CHECKS.due("no variables: solve()", x.solve(), true);
        for (int i = -1; i <= 8; i++) {
            CHECKS.due("no variables: best(" + i + ", true)", x.best(i, true), false);
            CHECKS.due("no variables: value(" + i + ")", x.value(i), NONE);
            CHECKS.due("no variables: least(" + i + ")", x.least(i), NONE);
            CHECKS.due("no variables: greatest(" + i + ")", x.greatest(i), NONE);
            CHECKS.due("no variables: implies(" + i + ", 20)", x.implies(i, 20), false);
        }
        x.linear(-1, 9, -1, 9, -1, 9, -1);
        CHECKS.due("no variables, 0 <= -1: solve()", x.solve(), false);
        x.variable(0, 7);
        CHECKS.due("then a variable: solve()", x.solve(), false);
        x.drop();
        CHECKS.due("then drop(): solve()", x.solve(), true);
    }

    private static void eachVariableIsThereOnlyOnceAdded() {
        ExplainingSolver x = new ExplainingSolver();
        for (int count = 0; count <= 8; count++) {
            dueOnlyTo(count, x);
            x.variable(count, count);
        }
        for (int i : FAR_OUT) {
            CHECKS.due("eight: least(" + i + ")", x.least(i), NONE);
            CHECKS.due("eight: greatest(" + i + ")", x.greatest(i), NONE);
            CHECKS.due("eight: value(" + i + ")", x.value(i), NONE);
            CHECKS.due("eight: implies(" + i + ", greatest int)", x.implies(i, GREATEST_INT), false);
            CHECKS.due("eight: best(" + i + ", false)", x.best(i, false), false);
            CHECKS.due("eight: assume(" + i + ", 0, 9)", x.assume(i, 0, 9), false);
        }
    }

    /** That the last of so many variables is there and the next one is not. */
    private static void dueOnlyTo(int count, ExplainingSolver x) {
        String told = count + " variables: ";
        x.solve();
        int last = count - 1;
        int want = count == 0 ? NONE : last;
        CHECKS.due(told + "value of the last", x.value(last), want);
        CHECKS.due(told + "least of the last", x.least(last), want);
        CHECKS.due(told + "greatest of the last", x.greatest(last), want);
        CHECKS.due(told + "implies of the last", x.implies(last, last), count > 0);
        CHECKS.due(told + "best of the last", x.best(last, true), count > 0);
        CHECKS.due(told + "value of the next", x.value(count), NONE);
        CHECKS.due(told + "least of the next", x.least(count), NONE);
        CHECKS.due(told + "greatest of the next", x.greatest(count), NONE);
        CHECKS.due(told + "implies of the next", x.implies(count, 20), false);
        CHECKS.due(told + "best of the next", x.best(count, true), false);
        CHECKS.due(told + "assume of the next", x.assume(count, 0, 9), false);
        CHECKS.due(told + "assume of the last", x.assume(last, 0, 9), count > 0);
        CHECKS.due(told + "retract", x.retract(), count > 0);
    }

    private static ExplainingSolver fourOfEight(int lo) {
        ExplainingSolver x = new ExplainingSolver();
        for (int n = 0; n < 4; n++) {
            x.variable(lo, lo + 7);
        }
        return x;
    }

    private static void dueOnly(String told, ExplainingSolver x, int value) {
        CHECKS.due(told + ": solve()", x.solve(), true);
        CHECKS.dueAnswer(told + ", solve()", x, value, value, value, value);
        for (int i = 0; i < 4; i++) {
            CHECKS.due(told + ": best(" + i + ", true)", x.best(i, true), true);
            CHECKS.dueAnswer(told + ", best", x, value, value, value, value);
            CHECKS.due(told + ": best(" + i + ", false)", x.best(i, false), true);
            CHECKS.dueAnswer(told + ", best", x, value, value, value, value);
            CHECKS.due(told + ": least(" + i + ")", x.least(i), value);
            CHECKS.due(told + ": greatest(" + i + ")", x.greatest(i), value);
            CHECKS.due(told + ": implies at it", x.implies(i, value), true);
            CHECKS.due(told + ": implies below it", x.implies(i, value - 1), false);
        }
    }

    private static void onlyTheFirstPoint() {
        ExplainingSolver x = fourOfEight(-20);
        x.linear(0, 1, 1, 1, 2, 1, -60);
        x.clause(3, -20, -1, 0, -1, 0, 0);
        dueOnly("only the first of 4096", x, -20);
    }

    private static void onlyTheLastPoint() {
        ExplainingSolver x = fourOfEight(13);
        x.linear(0, -1, 1, -1, 2, -1, -60);
        x.clause(3, 20, -1, 0, -1, 0, 1);
        dueOnly("only the last of 4096", x, 20);
    }

    /** "One comes BEFORE another when, at the first variable in which they differ, its value is less." */
    private static void beforeIsToldByTheFirstVariableThatDiffers() {
        ExplainingSolver x = new ExplainingSolver();
        x.variable(-1, 1);
        x.variable(-1, 1);
        x.variable(-1, 1);
        // x(0) + x(1) + x(2) is 1 or more.
        x.linear(0, -1, 1, -1, 2, -1, -1);
        x.solve();
        CHECKS.dueAnswer("the sum is 1 or more", x, -1, 1, 1);
        x.assume(0, 0, 1);
        x.solve();
        CHECKS.dueAnswer("x(0) from 0", x, 0, 0, 1);
        x.assume(2, -1, 0);
        x.solve();
        CHECKS.dueAnswer("x(2) to 0", x, 0, 1, 0);
        x.assume(1, -1, 0);
        x.solve();
        CHECKS.dueAnswer("x(1) to 0", x, 1, 0, 0);
        x.assume(0, -1, 0);
        CHECKS.due("x(0) is 0 too: solve()", x.solve(), false);
    }

    /** "of those in which x(i) is least (with most: greatest), the one that comes before all others". */
    private static void bestOfManyAlike() {
        ExplainingSolver x = new ExplainingSolver();
        x.variable(-1, 1);
        x.variable(-1, 1);
        x.variable(-1, 1);
        x.best(1, true);
        CHECKS.dueAnswer("nothing asked, best(1, true)", x, -1, 1, -1);
        x.best(1, false);
        CHECKS.dueAnswer("nothing asked, best(1, false)", x, -1, -1, -1);
        x.different(5);
        x.best(1, true);
        CHECKS.dueAnswer("x(0) is not x(2), best(1, true)", x, -1, 1, 0);
        x.best(2, true);
        CHECKS.dueAnswer("x(0) is not x(2), best(2, true)", x, -1, -1, 1);
        x.best(2, false);
        CHECKS.dueAnswer("x(0) is not x(2), best(2, false)", x, 0, -1, -1);
        x.best(0, true);
        CHECKS.dueAnswer("x(0) is not x(2), best(0, true)", x, 1, -1, -1);
        x.assume(1, -1, 0);
        x.best(1, true);
        CHECKS.dueAnswer("the greatest is not the range's", x, -1, 0, 0);
        x.assume(2, 0, 1);
        x.best(2, false);
        CHECKS.dueAnswer("the least is not the range's", x, -1, -1, 0);
    }

    private static void leastAndGreatestAtTheEnds() {
        ExplainingSolver x = new ExplainingSolver();
        x.variable(-20, -13);
        x.variable(13, 20);
        x.variable(0, 0);
        CHECKS.due("ends: least(0)", x.least(0), -20);
        CHECKS.due("ends: greatest(0)", x.greatest(0), -13);
        CHECKS.due("ends: least(1)", x.least(1), 13);
        CHECKS.due("ends: greatest(1)", x.greatest(1), 20);
        CHECKS.due("ends: least(2)", x.least(2), 0);
        CHECKS.due("ends: greatest(2)", x.greatest(2), 0);
        x.linear(0, 1, 1, 1, -1, 0, -1);
        x.linear(0, -1, 1, -1, -1, 0, 1);
        CHECKS.due("the sum is -1: least(0)", x.least(0), -20);
        CHECKS.due("the sum is -1: greatest(0)", x.greatest(0), -14);
        CHECKS.due("the sum is -1: least(1)", x.least(1), 13);
        CHECKS.due("the sum is -1: greatest(1)", x.greatest(1), 19);
    }

    /** "NONE when there is none, or no variable i." */
    private static void leastAndGreatestWithoutSolution() {
        ExplainingSolver x = fourOfEight(0);
        neverHolds(x);
        for (int i = -1; i <= 8; i++) {
            CHECKS.due("no solution: least(" + i + ")", x.least(i), NONE);
            CHECKS.due("no solution: greatest(" + i + ")", x.greatest(i), NONE);
        }
        x.drop();
        x.assume(3, 8, 9);
        CHECKS.due("assumed away: least(3)", x.least(3), NONE);
        CHECKS.due("assumed away: greatest(0)", x.greatest(0), NONE);
    }

    /** "Whether x(i) is at most v in every solution". */
    private static void impliesAtItsNumber() {
        ExplainingSolver x = fourOfEight(-4);
        x.assume(1, -2, 1);
        for (int v = -25; v <= 25; v++) {
            CHECKS.due("to 3: implies(0, " + v + ")", x.implies(0, v), v >= 3);
            CHECKS.due("to 1: implies(1, " + v + ")", x.implies(1, v), v >= 1);
        }
        CHECKS.due("implies(0, least int)", x.implies(0, LEAST_INT), false);
        CHECKS.due("implies(0, greatest int)", x.implies(0, GREATEST_INT), true);
    }

    /** "(so also when there is none); false when there is no variable i". */
    private static void impliesWithoutSolution() {
        ExplainingSolver x = fourOfEight(-4);
        neverHolds(x);
        int[] numbers = {LEAST_INT, -21, -5, 0, 20, GREATEST_INT};
        for (int v : numbers) {
            for (int i = -1; i <= 8; i++) {
                CHECKS.due("no solution: implies(" + i + ", " + v + ")", x.implies(i, v), i >= 0 && i < 4);
            }
        }
    }

    /** "that x(i) is from lo to hi". */
    private static void assumeTakesBothEnds() {
        ExplainingSolver x = fourOfEight(-4);
        for (int lo = -6; lo <= 5; lo++) {
            for (int hi = -6; hi <= 5; hi += 3) {
                int least = Math.max(lo, -4);
                int greatest = Math.min(hi, 3);
                CHECKS.due("assume(2, " + lo + ", " + hi + ")", x.assume(2, lo, hi), true);
                CHECKS.due(lo + " to " + hi + ": least(2)", x.least(2), least <= greatest ? least : NONE);
                CHECKS.due(lo + " to " + hi + ": greatest(2)", x.greatest(2), least <= greatest ? greatest : NONE);
                CHECKS.due(lo + " to " + hi + ": retract()", x.retract(), true);
            }
        }
    }

    /** "(lo and hi are any ints.)" */
    private static void assumeAnyInts() {
        int[] numbers = {LEAST_INT, LEAST_INT + 1, -4, 0, 3, GREATEST_INT - 1, GREATEST_INT};
        ExplainingSolver x = fourOfEight(-4);
        for (int lo : numbers) {
            for (int hi : numbers) {
                CHECKS.due("assume(0, " + lo + ", " + hi + ")", x.assume(0, lo, hi), true);
                CHECKS.due("assumed " + lo + " to " + hi + ": solve()", x.solve(), lo <= hi && lo <= 3 && hi >= -4);
                CHECKS.due("assumed " + lo + " to " + hi + ": assumptions()", x.assumptions(), 1);
                x.retract();
            }
        }
    }

    /** "False when .. there are 8 assumptions." */
    private static void eightAssumptionsNotNine() {
        ExplainingSolver x = fourOfEight(0);
        for (int n = 0; n < 8; n++) {
            CHECKS.due("of eight: assume", x.assume(n % 4, n, 9), true);
            CHECKS.due("of eight: assumptions()", x.assumptions(), n + 1);
        }
        CHECKS.due("a ninth: assume", x.assume(0, 0, 9), false);
        CHECKS.due("a ninth: assumptions()", x.assumptions(), 8);
        x.solve();
        CHECKS.dueAnswer("of eight, all hold", x, 4, 5, 6, 7);
        x.retract();
        CHECKS.due("an eighth again: assume", x.assume(3, 3, 3), true);
        CHECKS.due("an eighth again: greatest(3)", x.greatest(3), 3);
    }

    private static void retractTakesTheTopmost() {
        ExplainingSolver x = fourOfEight(0);
        for (int n = 0; n < 8; n++) {
            x.assume(0, n, 9);
        }
        for (int n = 7; n >= 0; n--) {
            CHECKS.due("assumptions 0 to " + n + ": least(0)", x.least(0), n);
            CHECKS.due("assumptions 0 to " + n + ": retract()", x.retract(), true);
            CHECKS.due("then assumptions()", x.assumptions(), n);
        }
        CHECKS.due("none: retract()", x.retract(), false);
        CHECKS.due("none: assumptions()", x.assumptions(), 0);
    }

    private static void dropTakesTheLatest() {
        ExplainingSolver x = new ExplainingSolver();
        x.variable(0, 7);
        x.variable(0, 7);
        for (int n = 0; n < 12; n++) {
            x.linear(0, -1, 1, -1, -1, 0, -n);
        }
        for (int n = 11; n >= 0; n--) {
            x.assume(1, 0, 5);
            CHECKS.due("constraints 0 to " + n + ": least(0)", x.least(0), Math.max(0, n - 5));
            x.retract();
            CHECKS.due("constraints 0 to " + n + ": drop()", x.drop(), true);
            CHECKS.due("then constraints()", x.constraints(), n);
        }
        CHECKS.due("none: drop()", x.drop(), false);
        CHECKS.due("none: constraints()", x.constraints(), 0);
    }

    /** A constraint that was added with 8 points, when there are 4096 of them, and when it is gone. */
    private static void constraintsOfBeforeHoldWhenTheSpaceGrows() {
        ExplainingSolver x = new ExplainingSolver();
        x.variable(0, 7);
        // Only places 0, 2, 3, 5 and 7 hold their own number.
        x.element(0, 0, 0x0700050003020000L);
        for (int n = 0; n < 3; n++) {
            x.variable(0, 7);
        }
        for (int v = 0; v < 8; v++) {
            dueEighth(v, x, v != 1 && v != 4 && v != 6);
        }
        x.drop();
        for (int v = 0; v < 8; v++) {
            dueEighth(v, x, true);
        }
    }

    /** That of the points in which x(0) is v all are solutions, or none. */
    private static void dueEighth(int v, ExplainingSolver x, boolean all) {
        x.assume(0, v, v);
        CHECKS.due("x(0) is " + v + ": solve()", x.solve(), all);
        for (int i = 1; i < 4; i++) {
            CHECKS.due("x(0) is " + v + ": least(" + i + ")", x.least(i), all ? 0 : NONE);
            CHECKS.due("x(0) is " + v + ": greatest(" + i + ")", x.greatest(i), all ? 7 : NONE);
        }
        x.retract();
    }

    /** "How many .. there are", from none to as many as there can be; refused calls count nothing. */
    private static void countsFromNoneToFull() {
        ExplainingSolver x = new ExplainingSolver();
        int[] spaces = {1, 2, 4, 8, 16, 64, 256, 1024, 4096};
        for (int n = 0; n <= 9; n++) {
            CHECKS.due("variables()", x.variables(), Math.min(n, 8));
            CHECKS.due("space()", x.space(), spaces[Math.min(n, 8)]);
            x.variable(0, n < 4 ? 1 : 3);
            x.variable(1, 0);
        }
        for (int n = 0; n <= 13; n++) {
            CHECKS.due("constraints()", x.constraints(), Math.min(n, 12));
            x.different(1);
            x.different(-1);
        }
        for (int n = 0; n <= 9; n++) {
            CHECKS.due("assumptions()", x.assumptions(), Math.min(n, 8));
            x.assume(0, 0, 1);
            x.assume(8, 0, 1);
        }
        CHECKS.due("at last: variables()", x.variables(), 8);
        CHECKS.due("at last: constraints()", x.constraints(), 12);
        CHECKS.due("at last: space()", x.space(), 4096);
    }

    /** As many variables, points, constraints and assumptions as there can be, all of which matter. */
    private static void allFull() {
        ExplainingSolver x = new ExplainingSolver();
        for (int n = 0; n < 8; n++) {
            x.variable(0, n < 4 ? 1 : 3);
        }
        for (int n = 0; n < 4; n++) {
            x.reified(n, n + 4, n + 4, n % 2 == 0 ? 0 : -1);
            x.clause(n, 1, n + 4, 1, -1, 0, n % 2 == 0 ? 3 : 2);
            x.linear(n, -1, n + 4, -1, -1, 0, -2);
        }
        for (int n = 0; n < 8; n++) {
            x.assume(n, n < 4 ? 0 : n - 4, n == 5 ? 2 : 9);
        }
        CHECKS.due("all full: constraints()", x.constraints(), 12);
        CHECKS.due("all full: assumptions()", x.assumptions(), 8);
        CHECKS.due("all full: solve()", x.solve(), true);
        CHECKS.dueAnswer("all full, solve()", x, 1, 0, 1, 0, 1, 2, 2, 3);
        CHECKS.due("all full: best(6, true)", x.best(6, true), true);
        CHECKS.dueAnswer("all full, best(6, true)", x, 1, 0, 1, 0, 1, 2, 3, 3);
        CHECKS.due("all full: greatest(5)", x.greatest(5), 2);
        CHECKS.due("all full: least(7)", x.least(7), 3);
        CHECKS.due("all full: implies(1, 0)", x.implies(1, 0), true);
    }

    /** "An object is used for at most 512 calls": the last ones are as good as the first. */
    private static void upToTheLastCall() {
        ExplainingSolver x = new ExplainingSolver();
        x.variable(0, 7);
        x.variable(0, 7);
        x.variable(0, 7);
        x.variable(0, 7);
        // 4 calls so far, and 4 in each round.
        for (int round = 0; round < 126; round++) {
            CHECKS.due("round " + round + ": linear", x.linear(0, -1, 3, -1, -1, 0, -(round % 15)), 0);
            CHECKS.due("round " + round + ": best(3, true)", x.best(3, true), true);
            CHECKS.due("round " + round + ": value(0)", x.value(0), Math.max(0, round % 15 - 7));
            CHECKS.due("round " + round + ": drop()", x.drop(), true);
        }
        CHECKS.due("call 509: space()", x.space(), 4096);
        CHECKS.due("call 510: assume(0, 7, 7)", x.assume(0, 7, 7), true);
        CHECKS.due("call 511: solve()", x.solve(), true);
        CHECKS.due("call 512: value(0)", x.value(0), 7);
    }
}
