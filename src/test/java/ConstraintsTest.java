/** Promises 3 to 9: the seven kinds of constraints, what they say and what they refuse. */
public final class ConstraintsTest {
    private static final int BAD = ExplainingSolver.BAD;
    private static final int FULL = ExplainingSolver.FULL;
    private static final Checks CHECKS = new Checks();

    public static void main(String[] args) {
        linear();
        linearRefused();
        reified();
        reifiedRefused();
        maximum();
        maximumRefused();
        element();
        elementRefused();
        different();
        differentRefused();
        cumulative();
        cumulativeRefused();
        clause();
        clauseRefused();
        fullOfEachKind();
        withoutVariables();
        addingTakesTheAnswer();
        wholeSpace();
        CHECKS.end();
    }

    private static void dueRefused(String call, ExplainingSolver x, int got, int want) {
        CHECKS.due(call, got, want);
        CHECKS.due(call + ", then constraints()", x.constraints(), want == FULL ? 12 : 0);
        CHECKS.due(call + ", then value(0)", x.value(0), 0);
    }

    /** Three variables of 0 to 1 and an answer that a refused call must leave. */
    private static ExplainingSolver threeSolved() {
        ExplainingSolver x = new ExplainingSolver();
        x.variable(0, 1);
        x.variable(0, 1);
        x.variable(0, 1);
        x.solve();
        return x;
    }

    private static void linear() {
        ExplainingSolver x = Checks.fixed(2, -3, 5);
        CHECKS.dueHolds("4 - 9 - 10 <= -15", x, x.linear(0, 2, 1, 3, 2, -2, -15), true);
        CHECKS.dueHolds("4 - 9 - 10 <= -16", x, x.linear(0, 2, 1, 3, 2, -2, -16), false);
        CHECKS.dueHolds("2 + 2 + 2 <= 6", x, x.linear(0, 1, 0, 1, 0, 1, 6), true);
        CHECKS.dueHolds("2 + 2 + 2 <= 5", x, x.linear(0, 1, 0, 1, 0, 1, 5), false);
        CHECKS.dueHolds("0 + 0 + 0 <= 0", x, x.linear(-1, 9, -1, 9, -1, 9, 0), true);
        CHECKS.dueHolds("0 + 0 + 0 <= -1", x, x.linear(-1, -9, -1, -9, -1, -9, -1), false);
        CHECKS.dueHolds("0 - 3 + 0 <= -3", x, x.linear(-1, 9, 1, 1, -1, 9, -3), true);
        CHECKS.dueHolds("0 - 3 + 0 <= -4", x, x.linear(-1, 9, 1, 1, -1, 9, -4), false);
        CHECKS.dueHolds("0 + 0 - 45 <= -45", x, x.linear(-1, 9, -1, 9, 2, -9, -45), true);
        CHECKS.dueHolds("0 + 0 - 45 <= -46", x, x.linear(-1, 9, -1, 9, 2, -9, -46), false);
        CHECKS.dueHolds("18 <= 18", x, x.linear(0, 9, -1, 0, -1, 0, 18), true);
        CHECKS.dueHolds("18 <= 17", x, x.linear(0, 9, -1, 0, -1, 0, 17), false);
        CHECKS.dueHolds("at most 1000", x, x.linear(0, 9, 1, 9, 2, 9, 1000), true);
        CHECKS.dueHolds("at most -1000", x, x.linear(0, 9, 1, 9, 2, 9, -1000), false);
    }

    private static void linearRefused() {
        ExplainingSolver x = threeSolved();
        dueRefused("linear, i 3", x, x.linear(3, 1, 1, 1, 1, 1, 0), BAD);
        dueRefused("linear, i -2", x, x.linear(-2, 1, 1, 1, 1, 1, 0), BAD);
        dueRefused("linear, j 3", x, x.linear(1, 1, 3, 1, 1, 1, 0), BAD);
        dueRefused("linear, j -2", x, x.linear(1, 1, -2, 1, 1, 1, 0), BAD);
        dueRefused("linear, k 3", x, x.linear(1, 1, 1, 1, 3, 1, 0), BAD);
        dueRefused("linear, k -2", x, x.linear(1, 1, 1, 1, Integer.MIN_VALUE, 1, 0), BAD);
        dueRefused("linear, a 10", x, x.linear(1, 10, 1, 1, 1, 1, 0), BAD);
        dueRefused("linear, a -10", x, x.linear(-1, -10, 1, 1, 1, 1, 0), BAD);
        dueRefused("linear, b 10", x, x.linear(1, 1, -1, 10, 1, 1, 0), BAD);
        dueRefused("linear, b -10", x, x.linear(1, 1, 1, -10, 1, 1, 0), BAD);
        dueRefused("linear, c 10", x, x.linear(1, 1, 1, 1, -1, 10, 0), BAD);
        dueRefused("linear, c -10", x, x.linear(1, 1, 1, 1, 1, -10, 0), BAD);
        dueRefused("linear, bound 1001", x, x.linear(1, 1, 1, 1, 1, 1, 1001), BAD);
        dueRefused("linear, bound -1001", x, x.linear(1, 1, 1, 1, 1, 1, -1001), BAD);
        dueRefused("linear, least ints", x, x.linear(0, Integer.MIN_VALUE, 1, 1, 1, 1, 0), BAD);
    }

    private static void reified() {
        int[] truths = {-1, 0, 1, 2};
        for (int truth : truths) {
            ExplainingSolver x = Checks.fixed(truth, 4, 3);
            String r = "x(r) " + truth;
            CHECKS.dueHolds(r + ", 4 <= 3 + 1", x, x.reified(0, 1, 2, 1), truth >= 1);
            CHECKS.dueHolds(r + ", 4 <= 3 + 2", x, x.reified(0, 1, 2, 2), truth >= 1);
            CHECKS.dueHolds(r + ", 4 <= 3 + 0", x, x.reified(0, 1, 2, 0), truth < 1);
            CHECKS.dueHolds(r + ", 3 <= 4 - 1", x, x.reified(0, 2, 1, -1), truth >= 1);
            CHECKS.dueHolds(r + ", 3 <= 4 - 2", x, x.reified(0, 2, 1, -2), truth < 1);
            CHECKS.dueHolds(r + ", 4 <= 4 + 100", x, x.reified(0, 1, 1, 100), truth >= 1);
            CHECKS.dueHolds(r + ", 4 <= 4 - 100", x, x.reified(0, 1, 1, -100), truth < 1);
            CHECKS.dueHolds(r + ", all the same", x, x.reified(0, 0, 0, 0), truth >= 1);
        }
    }

    private static void reifiedRefused() {
        ExplainingSolver x = threeSolved();
        dueRefused("reified, r 3", x, x.reified(3, 0, 0, 0), BAD);
        dueRefused("reified, r -1", x, x.reified(-1, 0, 0, 0), BAD);
        dueRefused("reified, i 3", x, x.reified(0, 3, 0, 0), BAD);
        dueRefused("reified, i -1", x, x.reified(0, -1, 0, 0), BAD);
        dueRefused("reified, j 3", x, x.reified(0, 0, 3, 0), BAD);
        dueRefused("reified, j -1", x, x.reified(0, 0, -1, 0), BAD);
        dueRefused("reified, c 101", x, x.reified(0, 0, 0, 101), BAD);
        dueRefused("reified, c -101", x, x.reified(0, 0, 0, -101), BAD);
    }

    private static void maximum() {
        for (int most = -7; most <= 5; most++) {
            ExplainingSolver x = Checks.fixed(most, -7, -2, 4);
            String r = "x(r) " + most;
            CHECKS.dueHolds(r + " of -7", x, x.maximum(0, 1, -1, -1), most == -7);
            CHECKS.dueHolds(r + " of -7, -2", x, x.maximum(0, 1, 2, -1), most == -2);
            CHECKS.dueHolds(r + " of -7, none, 4", x, x.maximum(0, 1, -1, 3), most == 4);
            CHECKS.dueHolds(r + " of -7, -2, 4", x, x.maximum(0, 1, 2, 3), most == 4);
            CHECKS.dueHolds(r + " of 4, -7, -2", x, x.maximum(0, 3, 1, 2), most == 4);
            CHECKS.dueHolds(r + " of -2, 4, -7", x, x.maximum(0, 2, 3, 1), most == 4);
            CHECKS.dueHolds(r + " of -2, -2, -7", x, x.maximum(0, 2, 2, 1), most == -2);
            CHECKS.dueHolds(r + " of itself", x, x.maximum(0, 0, -1, -1), true);
            CHECKS.dueHolds(r + " of itself, -2", x, x.maximum(0, 0, 2, -1), most >= -2);
        }
    }

    private static void maximumRefused() {
        ExplainingSolver x = threeSolved();
        dueRefused("maximum, r 3", x, x.maximum(3, 0, 0, 0), BAD);
        dueRefused("maximum, r -1", x, x.maximum(-1, 0, 0, 0), BAD);
        dueRefused("maximum, i 3", x, x.maximum(0, 3, 0, 0), BAD);
        dueRefused("maximum, i -1", x, x.maximum(0, -1, 0, 0), BAD);
        dueRefused("maximum, j 3", x, x.maximum(0, 0, 3, 0), BAD);
        dueRefused("maximum, j -2", x, x.maximum(0, 0, -2, 0), BAD);
        dueRefused("maximum, k 3", x, x.maximum(0, 0, 0, 3), BAD);
        dueRefused("maximum, k -2", x, x.maximum(0, 0, 0, -2), BAD);
    }

    private static void element() {
        int[] bytes = {5, -20, 20, -1, 0, 7, 127, -13};
        long table = 0;
        for (int n = 0; n < 8; n++) {
            table |= (bytes[n] & 255L) << (8 * n);
        }
        for (int place = -2; place <= 9; place++) {
            for (int entry = -20; entry <= 20; entry++) {
                ExplainingSolver x = Checks.fixed(entry, place);
                boolean want = place >= 0 && place <= 7 && bytes[place] == entry;
                CHECKS.dueHolds("entry " + entry + " at " + place, x, x.element(0, 1, table), want);
            }
        }
        ExplainingSolver x = Checks.fixed(0, 3, 8);
        CHECKS.dueHolds("3 at 3", x, x.element(1, 1, 0x0303030303030303L), true);
        CHECKS.dueHolds("8 at 8, which is no place", x, x.element(2, 2, 0x0808080808080808L), false);
        CHECKS.dueHolds("byte 128 is -128", x, x.element(0, 0, 128), false);
        CHECKS.dueHolds("bit 8 is byte 1's", x, x.element(0, 0, 256), true);
    }

    private static void elementRefused() {
        ExplainingSolver x = threeSolved();
        dueRefused("element, r 3", x, x.element(3, 0, 0), BAD);
        dueRefused("element, r -1", x, x.element(-1, 0, 0), BAD);
        dueRefused("element, i 3", x, x.element(0, 3, 0), BAD);
        dueRefused("element, i -1", x, x.element(0, -1, 0), BAD);
    }

    private static void different() {
        ExplainingSolver x = Checks.fixed(-20, 20, 3, 3, 12, -20, 0, 4);
        CHECKS.dueHolds("different none", x, x.different(0), true);
        CHECKS.dueHolds("different one", x, x.different(8), true);
        CHECKS.dueHolds("different 3, 3", x, x.different(12), false);
        CHECKS.dueHolds("different -20, 20", x, x.different(3), true);
        CHECKS.dueHolds("different -20, -20", x, x.different(33), false);
        CHECKS.dueHolds("different -20, 12", x, x.different(17), true);
        CHECKS.dueHolds("different 20, 3, 12, -20, 0, 4", x, x.different(0b11110110), true);
        CHECKS.dueHolds("different all", x, x.different(255), false);
    }

    private static void differentRefused() {
        ExplainingSolver x = threeSolved();
        dueRefused("different(8)", x, x.different(8), BAD);
        dueRefused("different(-1)", x, x.different(-1), BAD);
        dueRefused("different(greatest int)", x, x.different(Integer.MAX_VALUE), BAD);
        dueRefused("different(least int)", x, x.different(Integer.MIN_VALUE), BAD);
        CHECKS.due("different(7)", x.different(7), 0);
    }

    private static void cumulative() {
        ExplainingSolver x = Checks.fixed(0, 2, 4, 4);
        CHECKS.dueHolds("0-1 and 2-3", x, x.cumulative(3, 0x22, 0x33, 3), true);
        CHECKS.dueHolds("0-2 and 2-3", x, x.cumulative(3, 0x23, 0x33, 5), false);
        CHECKS.dueHolds("0-2 and 2-3, room for both", x, x.cumulative(3, 0x23, 0x33, 6), true);
        CHECKS.dueHolds("tasks that are not of the set", x, x.cumulative(4, 0xffff, 0xffff, 15), true);
        CHECKS.dueHolds("a task alone needs too much", x, x.cumulative(4, 0x100, 0xf00, 14), false);
        CHECKS.dueHolds("a task without duration", x, x.cumulative(4, 0, 0xf00, 0), true);
        CHECKS.dueHolds("one without duration inside another", x, x.cumulative(3, 0x0f, 0xff, 15), true);
        CHECKS.dueHolds("tasks without need", x, x.cumulative(15, 0xffff, 0, 0), true);
        CHECKS.dueHolds("all at moment 4", x, x.cumulative(15, 0xffff, 0xffff, 59), false);
        CHECKS.dueHolds("all at moment 4, room", x, x.cumulative(15, 0xffff, 0xffff, 60), true);
        CHECKS.dueHolds("same moments", x, x.cumulative(12, 0x1100, 0x2100, 2), false);
        CHECKS.dueHolds("same moments, room", x, x.cumulative(12, 0x1100, 0x2100, 3), true);
        CHECKS.dueHolds("no task", x, x.cumulative(0, -1, -1, 0), true);
        CHECKS.dueHolds("a long's higher bits", x, x.cumulative(3, 0x7700000022L, 0x7700000033L, 3), true);
        ExplainingSolver y = Checks.fixed(-20, -6, 20, 0, 0, 0, 0, 0);
        CHECKS.dueHolds("-20 to -6 meets -6", y, y.cumulative(3, 0x1f, 0x11, 1), false);
        CHECKS.dueHolds("-20 to -7 misses -6", y, y.cumulative(3, 0x1e, 0x11, 1), true);
        CHECKS.dueHolds("task 7 of eight", y, y.cumulative(192, 0xff000000L, 0xf1000000L, 15), false);
        CHECKS.dueHolds("task 7 of eight, room", y, y.cumulative(192, 0xff000000L, 0xf1000000L, 16), true);
    }

    private static void cumulativeRefused() {
        ExplainingSolver x = threeSolved();
        dueRefused("cumulative, set 8", x, x.cumulative(8, 0, 0, 0), BAD);
        dueRefused("cumulative, set -1", x, x.cumulative(-1, 0, 0, 0), BAD);
        dueRefused("cumulative, capacity -1", x, x.cumulative(7, 0, 0, -1), BAD);
        dueRefused("cumulative, capacity 101", x, x.cumulative(7, 0, 0, 101), BAD);
        CHECKS.due("cumulative, capacity 100", x.cumulative(7, -1, -1, 100), 0);
    }

    private static void clause() {
        ExplainingSolver x = Checks.fixed(2, -3, 5);
        CHECKS.dueHolds("no parts", x, x.clause(-1, 0, -1, 0, -1, 0, 0), false);
        CHECKS.dueHolds("no parts, how 7", x, x.clause(-1, 0, -1, 0, -1, 0, 7), false);
        CHECKS.dueHolds("2 <= 2", x, x.clause(0, 2, -1, 100, -1, 100, 0), true);
        CHECKS.dueHolds("2 <= 1", x, x.clause(0, 1, -1, 100, -1, 100, 6), false);
        CHECKS.dueHolds("2 >= 2", x, x.clause(0, 2, -1, 100, -1, 100, 1), true);
        CHECKS.dueHolds("2 >= 3", x, x.clause(0, 3, -1, -100, -1, 100, 1), false);
        CHECKS.dueHolds("-3 <= -3", x, x.clause(-1, 100, 1, -3, -1, 100, 0), true);
        CHECKS.dueHolds("-3 <= -4", x, x.clause(-1, 100, 1, -4, -1, 100, 5), false);
        CHECKS.dueHolds("-3 >= -3", x, x.clause(-1, 100, 1, -3, -1, 100, 2), true);
        CHECKS.dueHolds("-3 >= -2", x, x.clause(-1, 100, 1, -2, -1, 100, 2), false);
        CHECKS.dueHolds("5 <= 5", x, x.clause(-1, 100, -1, 100, 2, 5, 0), true);
        CHECKS.dueHolds("5 <= 4", x, x.clause(-1, 100, -1, 100, 2, 4, 3), false);
        CHECKS.dueHolds("5 >= 5", x, x.clause(-1, 100, -1, 100, 2, 5, 4), true);
        CHECKS.dueHolds("5 >= 6", x, x.clause(-1, 100, -1, 100, 2, 6, 4), false);
        CHECKS.dueHolds("2 <= 1 or -3 <= -4 or 5 <= 4", x, x.clause(0, 1, 1, -4, 2, 4, 0), false);
        CHECKS.dueHolds("2 <= 1 or -3 <= -4 or 5 >= 4", x, x.clause(0, 1, 1, -4, 2, 4, 4), true);
        CHECKS.dueHolds("2 <= 1 or -3 >= -4 or 5 <= 4", x, x.clause(0, 1, 1, -4, 2, 4, 2), true);
        CHECKS.dueHolds("2 >= 1 or -3 <= -4 or 5 <= 4", x, x.clause(0, 1, 1, -4, 2, 4, 1), true);
        CHECKS.dueHolds("2 >= -100", x, x.clause(0, -100, -1, 0, -1, 0, 1), true);
        CHECKS.dueHolds("2 >= 100", x, x.clause(0, 100, -1, 0, -1, 0, 1), false);
    }

    private static void clauseRefused() {
        ExplainingSolver x = threeSolved();
        dueRefused("clause, i 3", x, x.clause(3, 0, 0, 0, 0, 0, 0), BAD);
        dueRefused("clause, i -2", x, x.clause(-2, 0, 0, 0, 0, 0, 0), BAD);
        dueRefused("clause, j 3", x, x.clause(0, 0, 3, 0, 0, 0, 0), BAD);
        dueRefused("clause, j -2", x, x.clause(0, 0, -2, 0, 0, 0, 0), BAD);
        dueRefused("clause, k 3", x, x.clause(0, 0, 0, 0, 3, 0, 0), BAD);
        dueRefused("clause, k -2", x, x.clause(0, 0, 0, 0, -2, 0, 0), BAD);
        dueRefused("clause, v 101", x, x.clause(-1, 101, 0, 0, 0, 0, 0), BAD);
        dueRefused("clause, v -101", x, x.clause(0, -101, 0, 0, 0, 0, 0), BAD);
        dueRefused("clause, w 101", x, x.clause(0, 0, 0, 101, 0, 0, 0), BAD);
        dueRefused("clause, w -101", x, x.clause(0, 0, -1, -101, 0, 0, 0), BAD);
        dueRefused("clause, u 101", x, x.clause(0, 0, 0, 0, -1, 101, 0), BAD);
        dueRefused("clause, u -101", x, x.clause(0, 0, 0, 0, 0, -101, 0), BAD);
        dueRefused("clause, how 8", x, x.clause(0, 0, 0, 0, 0, 0, 8), BAD);
        dueRefused("clause, how -1", x, x.clause(0, 0, 0, 0, 0, 0, -1), BAD);
    }

    private static void fullOfEachKind() {
        ExplainingSolver x = threeSolved();
        for (int n = 0; n < 12; n++) {
            CHECKS.due("constraint " + n, x.linear(0, 1, 1, 1, 2, 1, 3), n);
        }
        x.solve();
        dueRefused("linear, a 13th", x, x.linear(0, 1, 1, 1, 2, 1, 2), FULL);
        dueRefused("reified, a 13th", x, x.reified(0, 0, 0, 0), FULL);
        dueRefused("maximum, a 13th", x, x.maximum(0, 0, -1, -1), FULL);
        dueRefused("element, a 13th", x, x.element(0, 0, 0), FULL);
        dueRefused("different, a 13th", x, x.different(7), FULL);
        dueRefused("cumulative, a 13th", x, x.cumulative(7, 0, 0, 0), FULL);
        dueRefused("clause, a 13th", x, x.clause(-1, 0, -1, 0, -1, 0, 0), FULL);
        CHECKS.due("full and bad: linear", x.linear(3, 1, 1, 1, 2, 1, 2), BAD);
        CHECKS.due("full and bad: reified", x.reified(0, 0, 0, 101), BAD);
        CHECKS.due("full and bad: maximum", x.maximum(0, -1, -1, -1), BAD);
        CHECKS.due("full and bad: element", x.element(0, 3, 0), BAD);
        CHECKS.due("full and bad: different", x.different(8), BAD);
        CHECKS.due("full and bad: cumulative", x.cumulative(7, 0, 0, 101), BAD);
        CHECKS.due("full and bad: clause", x.clause(-1, 0, -1, 0, -1, 0, 8), BAD);
        CHECKS.due("full: solve()", x.solve(), true);
        CHECKS.due("full: drop()", x.drop(), true);
        CHECKS.due("after drop()", x.clause(-1, 0, -1, 0, -1, 0, 0), 11);
        CHECKS.due("the 12th never holds: solve()", x.solve(), false);
    }

    private static void withoutVariables() {
        ExplainingSolver x = new ExplainingSolver();
        CHECKS.dueHolds("linear without variables", x, x.linear(-1, 1, -1, 1, -1, 1, 0), true);
        CHECKS.dueHolds("linear without variables, -1", x, x.linear(-1, 1, -1, 1, -1, 1, -1), false);
        CHECKS.dueHolds("clause without variables", x, x.clause(-1, 0, -1, 0, -1, 0, 7), false);
        CHECKS.dueHolds("different without variables", x, x.different(0), true);
        CHECKS.dueHolds("cumulative without variables", x, x.cumulative(0, 0, 0, 0), true);
        CHECKS.due("no variable: different(1)", x.different(1), BAD);
        CHECKS.due("no variable: cumulative(1, ..)", x.cumulative(1, 0, 0, 0), BAD);
        CHECKS.due("no variable: reified", x.reified(0, 0, 0, 0), BAD);
        CHECKS.due("no variable: maximum", x.maximum(0, 0, -1, -1), BAD);
        CHECKS.due("no variable: element", x.element(0, 0, 0), BAD);
    }

    private static void addingTakesTheAnswer() {
        ExplainingSolver x = threeSolved();
        int[] numbers = new int[7];
        for (int kind = 0; kind < 7; kind++) {
            x.solve();
            CHECKS.due("before kind " + kind + ": value(0)", x.value(0), 0);
            numbers[kind] = addKind(kind, x);
            CHECKS.due("kind " + kind, numbers[kind], kind);
            CHECKS.due("after kind " + kind + ": value(0)", x.value(0), ExplainingSolver.NONE);
        }
    }

    /** With 4096 points, constraints that leave only the last of them. */
    private static void wholeSpace() {
        ExplainingSolver x = new ExplainingSolver();
        for (int n = 0; n < 4; n++) {
            x.variable(-3, 4);
        }
        CHECKS.due("4096 points: linear", x.linear(0, -1, 1, -1, 2, -1, -12), 0);
        CHECKS.due("4096 points: maximum", x.maximum(3, 0, 1, 2), 1);
        CHECKS.due("4096 points: solve()", x.solve(), true);
        CHECKS.dueAnswer("4096 points", x, 4, 4, 4, 4);
        CHECKS.due("4096 points: implies(3, 3)", x.implies(3, 3), false);
        CHECKS.due("4096 points: different(15)", x.different(15), 2);
        CHECKS.due("4096 points: greatest(3)", x.greatest(3), ExplainingSolver.NONE);
        for (int n = 0; n < 3; n++) {
            CHECKS.due("4096 points: drop()", x.drop(), true);
        }
        CHECKS.due("4096 points: best(3, false)", x.best(3, false), true);
        CHECKS.dueAnswer("4096 points, no constraint", x, -3, -3, -3, -3);
    }

    /** Adds a constraint of this kind under which all variables may be 0. */
    private static int addKind(int kind, ExplainingSolver x) {
        switch (kind) {
            case 0: return x.linear(0, 1, -1, 0, -1, 0, 1);
            case 1: return x.reified(0, 1, 2, -1);
            case 2: return x.maximum(0, 1, 2, -1);
            case 3: return x.element(0, 1, 0);
            case 4: return x.different(1);
            case 5: return x.cumulative(7, 0x111, 0x111, 3);
            default: return x.clause(0, 0, -1, 0, -1, 0, 0);
        }
    }
}
