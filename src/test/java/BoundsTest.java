/**
 * Promises 2 to 9: of every number that a call takes, the last one taken and the first one refused, on both
 * sides, and the ints farthest out, where sums and differences wrap round.
 */
public final class BoundsTest {
    private static final int BAD = ExplainingSolver.BAD;
    private static final int FULL = ExplainingSolver.FULL;
    private static final int LEAST_INT = Integer.MIN_VALUE;
    private static final int GREATEST_INT = Integer.MAX_VALUE;
    private static final Checks CHECKS = new Checks();

    /** A call that adds a constraint, with one of its numbers left open. */
    private interface Call {
        int with(ExplainingSolver x, int number);
    }

    public static void main(String[] args) {
        rangesFromMinus20To20OfAtMost8Numbers();
        rangesFarOut();
        eightVariablesNotNine();
        spaceOf4096AndNoMore();
        spaceOfEightVariables();
        for (int count = 0; count <= 8; count++) {
            linearVariables(count);
            reifiedVariables(count);
            maximumVariables(count);
            elementVariables(count);
            sets(count);
            clauseVariables(count);
        }
        linearFactors();
        linearBound();
        reifiedOffset();
        elementTakesEveryTable();
        cumulativeCapacity();
        cumulativeTakesEveryLong();
        clauseNumbers();
        clauseHow();
        twelveConstraintsNotThirteen();
        CHECKS.end();
    }

    private static ExplainingSolver withVariables(int count) {
        ExplainingSolver x = new ExplainingSolver();
        for (int n = 0; n < count; n++) {
            x.variable(0, 1);
        }
        return x;
    }

    /** That the call takes lo and hi, and refuses the numbers beside them and those farthest out. */
    private static void takesFromTo(String what, ExplainingSolver x, int lo, int hi, Call call) {
        if (lo <= hi) {
            taken(what, x, lo, call);
            taken(what, x, hi, call);
        }
        int[] outside = {lo - 1, hi + 1, LEAST_INT, GREATEST_INT};
        for (int number : outside) {
            String told = x.variables() + " variables: " + what + " " + number;
            CHECKS.due(told, call.with(x, number), BAD);
            CHECKS.due(told + ", then constraints()", x.constraints(), 0);
        }
    }

    private static void taken(String what, ExplainingSolver x, int number, Call call) {
        String told = x.variables() + " variables: " + what + " " + number;
        CHECKS.due(told, call.with(x, number), 0);
        CHECKS.due(told + ", then drop()", x.drop(), true);
    }

    /** "BAD (-20 <= lo <= hi <= 20, hi - lo <= 7)": every pair near them. */
    private static void rangesFromMinus20To20OfAtMost8Numbers() {
        for (int lo = -30; lo <= 30; lo++) {
            for (int hi = -30; hi <= 30; hi++) {
                ExplainingSolver x = new ExplainingSolver();
                boolean good = -20 <= lo && lo <= hi && hi <= 20 && hi - lo <= 7;
                String told = "variable(" + lo + ", " + hi + ")";
                CHECKS.due(told, x.variable(lo, hi), good ? 0 : BAD);
                CHECKS.due(told + ", then variables()", x.variables(), good ? 1 : 0);
                CHECKS.due(told + ", then space()", x.space(), good ? hi - lo + 1 : 1);
                CHECKS.due(told + ", then least(0)", x.least(0), good ? lo : ExplainingSolver.NONE);
                CHECKS.due(told + ", then greatest(0)", x.greatest(0), good ? hi : ExplainingSolver.NONE);
            }
        }
    }

    private static void rangesFarOut() {
        int[] numbers = {LEAST_INT, LEAST_INT + 1, LEAST_INT + 7, -20, 0, 20, GREATEST_INT - 7, GREATEST_INT};
        ExplainingSolver x = new ExplainingSolver();
        for (int lo : numbers) {
            for (int hi : numbers) {
                if (lo != hi || lo < -20 || hi > 20) {
                    CHECKS.due("variable(" + lo + ", " + hi + ")", x.variable(lo, hi), BAD);
                }
            }
        }
        CHECKS.due("far out: variables()", x.variables(), 0);
    }

    /** "FULL when there are 8": also a variable that would leave the space as it is. */
    private static void eightVariablesNotNine() {
        ExplainingSolver x = new ExplainingSolver();
        for (int n = 0; n < 8; n++) {
            CHECKS.due("of eight: variable(4, 4)", x.variable(4, 4), n);
            CHECKS.due("of eight: variables()", x.variables(), n + 1);
            CHECKS.due("of eight: space()", x.space(), 1);
        }
        CHECKS.due("a ninth: variable(4, 4)", x.variable(4, 4), FULL);
        CHECKS.due("a ninth: variable(-20, -13)", x.variable(-20, -13), FULL);
        CHECKS.due("a ninth: variables()", x.variables(), 8);
    }

    /** "FULL when .. the space would be above 4096": 4116 is the next product of sizes after it. */
    private static void spaceOf4096AndNoMore() {
        ExplainingSolver x = new ExplainingSolver();
        CHECKS.due("no variables: space()", x.space(), 1);
        int[] spaces = {8, 64, 512, 4096};
        for (int n = 0; n < 4; n++) {
            CHECKS.due("8 numbers", x.variable(-4, 3), n);
            CHECKS.due("8 numbers each: space()", x.space(), spaces[n]);
        }
        CHECKS.due("8192", x.variable(0, 1), FULL);
        CHECKS.due("32768", x.variable(0, 7), FULL);
        CHECKS.due("4096 once more", x.variable(0, 0), 4);
        CHECKS.due("4096 once more: space()", x.space(), 4096);
        ExplainingSolver y = new ExplainingSolver();
        y.variable(0, 6);
        y.variable(0, 6);
        y.variable(0, 6);
        y.variable(0, 5);
        CHECKS.due("2058: space()", y.space(), 2058);
        CHECKS.due("4116", y.variable(0, 1), FULL);
        CHECKS.due("2058 still: space()", y.space(), 2058);
        CHECKS.due("2058 still: variables()", y.variables(), 4);
    }

    /** The most variables and the most points at once. */
    private static void spaceOfEightVariables() {
        ExplainingSolver x = new ExplainingSolver();
        for (int n = 0; n < 8; n++) {
            CHECKS.due("variable " + n, x.variable(0, n < 4 ? 1 : 3), n);
        }
        CHECKS.due("2 * 2 * 2 * 2 * 4 * 4 * 4 * 4", x.space(), 4096);
        CHECKS.due("both full: variable(0, 0)", x.variable(0, 0), FULL);
    }

    private static void linearVariables(int count) {
        ExplainingSolver x = withVariables(count);
        takesFromTo("linear, i", x, -1, count - 1, (s, i) -> s.linear(i, 1, -1, 1, -1, 1, 0));
        takesFromTo("linear, j", x, -1, count - 1, (s, j) -> s.linear(-1, 1, j, 1, -1, 1, 0));
        takesFromTo("linear, k", x, -1, count - 1, (s, k) -> s.linear(-1, 1, -1, 1, k, 1, 0));
    }

    private static void reifiedVariables(int count) {
        ExplainingSolver x = withVariables(count);
        takesFromTo("reified, r", x, 0, count - 1, (s, r) -> s.reified(r, 0, 0, 0));
        takesFromTo("reified, i", x, 0, count - 1, (s, i) -> s.reified(0, i, 0, 0));
        takesFromTo("reified, j", x, 0, count - 1, (s, j) -> s.reified(0, 0, j, 0));
    }

    private static void maximumVariables(int count) {
        ExplainingSolver x = withVariables(count);
        takesFromTo("maximum, r", x, 0, count - 1, (s, r) -> s.maximum(r, 0, -1, -1));
        takesFromTo("maximum, i", x, 0, count - 1, (s, i) -> s.maximum(0, i, -1, -1));
        if (count > 0) {
            takesFromTo("maximum, j", x, -1, count - 1, (s, j) -> s.maximum(0, 0, j, -1));
            takesFromTo("maximum, k", x, -1, count - 1, (s, k) -> s.maximum(0, 0, -1, k));
        }
    }

    private static void elementVariables(int count) {
        ExplainingSolver x = withVariables(count);
        takesFromTo("element, r", x, 0, count - 1, (s, r) -> s.element(r, 0, 0));
        takesFromTo("element, i", x, 0, count - 1, (s, i) -> s.element(0, i, 0));
    }

    /** "a set of variables that are there, perhaps none: from 0 to 2^variables - 1". */
    private static void sets(int count) {
        ExplainingSolver x = withVariables(count);
        int all = (1 << count) - 1;
        takesFromTo("different", x, 0, all, (s, set) -> s.different(set));
        takesFromTo("cumulative, set", x, 0, all, (s, set) -> s.cumulative(set, 0, 0, 0));
        int[] bitsOfNoVariable = {1 << count, all | 1 << 8, all | 1 << 30, all | LEAST_INT};
        for (int set : bitsOfNoVariable) {
            CHECKS.due(count + " variables: different(" + set + ")", x.different(set), BAD);
            CHECKS.due(count + " variables: cumulative(" + set + ", ..)", x.cumulative(set, 0, 0, 0), BAD);
        }
    }

    private static void clauseVariables(int count) {
        ExplainingSolver x = withVariables(count);
        takesFromTo("clause, i", x, -1, count - 1, (s, i) -> s.clause(i, 0, -1, 0, -1, 0, 0));
        takesFromTo("clause, j", x, -1, count - 1, (s, j) -> s.clause(-1, 0, j, 0, -1, 0, 0));
        takesFromTo("clause, k", x, -1, count - 1, (s, k) -> s.clause(-1, 0, -1, 0, k, 0, 0));
    }

    /** "a, b, c from -9 to 9, also of parts that aren't there". */
    private static void linearFactors() {
        ExplainingSolver x = withVariables(3);
        takesFromTo("linear, a", x, -9, 9, (s, a) -> s.linear(0, a, 1, 1, 2, 1, 0));
        takesFromTo("linear, b", x, -9, 9, (s, b) -> s.linear(0, 1, 1, b, 2, 1, 0));
        takesFromTo("linear, c", x, -9, 9, (s, c) -> s.linear(0, 1, 1, 1, 2, c, 0));
        takesFromTo("linear, a of no part", x, -9, 9, (s, a) -> s.linear(-1, a, 1, 1, 2, 1, 0));
        takesFromTo("linear, b of no part", x, -9, 9, (s, b) -> s.linear(0, 1, -1, b, 2, 1, 0));
        takesFromTo("linear, c of no part", x, -9, 9, (s, c) -> s.linear(0, 1, 1, 1, -1, c, 0));
    }

    private static void linearBound() {
        ExplainingSolver x = withVariables(3);
        takesFromTo("linear, bound", x, -1000, 1000, (s, bound) -> s.linear(0, 1, 1, 1, 2, 1, bound));
        takesFromTo("linear without parts, bound", x, -1000, 1000,
                (s, bound) -> s.linear(-1, 0, -1, 0, -1, 0, bound));
    }

    private static void reifiedOffset() {
        ExplainingSolver x = withVariables(3);
        takesFromTo("reified, c", x, -100, 100, (s, c) -> s.reified(0, 1, 2, c));
    }

    private static void elementTakesEveryTable() {
        long[] tables = {0, -1, Long.MIN_VALUE, Long.MAX_VALUE, 0x8080808080808080L, 1L << 32};
        ExplainingSolver x = withVariables(2);
        for (int n = 0; n < tables.length; n++) {
            CHECKS.due("element, table " + tables[n], x.element(0, 1, tables[n]), n);
        }
    }

    private static void cumulativeCapacity() {
        ExplainingSolver x = withVariables(3);
        takesFromTo("cumulative, capacity", x, 0, 100, (s, capacity) -> s.cumulative(7, 0, 0, capacity));
        takesFromTo("cumulative of none, capacity", x, 0, 100, (s, capacity) -> s.cumulative(0, 0, 0, capacity));
    }

    private static void cumulativeTakesEveryLong() {
        long[] rows = {0, -1, Long.MIN_VALUE, Long.MAX_VALUE, 1L << 32};
        ExplainingSolver x = withVariables(3);
        for (int n = 0; n < rows.length; n++) {
            CHECKS.due("cumulative, durations " + rows[n], x.cumulative(7, rows[n], 0, 0), 2 * n);
            CHECKS.due("cumulative, needs " + rows[n], x.cumulative(7, 0, rows[n], 0), 2 * n + 1);
        }
    }

    /** "v, w, u from -100 to 100, also of parts that aren't there". */
    private static void clauseNumbers() {
        ExplainingSolver x = withVariables(3);
        takesFromTo("clause, v", x, -100, 100, (s, v) -> s.clause(0, v, 1, 0, 2, 0, 0));
        takesFromTo("clause, w", x, -100, 100, (s, w) -> s.clause(0, 0, 1, w, 2, 0, 0));
        takesFromTo("clause, u", x, -100, 100, (s, u) -> s.clause(0, 0, 1, 0, 2, u, 0));
        takesFromTo("clause, v of no part", x, -100, 100, (s, v) -> s.clause(-1, v, 1, 0, 2, 0, 0));
        takesFromTo("clause, w of no part", x, -100, 100, (s, w) -> s.clause(0, 0, -1, w, 2, 0, 0));
        takesFromTo("clause, u of no part", x, -100, 100, (s, u) -> s.clause(0, 0, 1, 0, -1, u, 0));
    }

    private static void clauseHow() {
        ExplainingSolver x = withVariables(3);
        takesFromTo("clause, how", x, 0, 7, (s, how) -> s.clause(0, 0, 1, 0, 2, 0, how));
        takesFromTo("clause without parts, how", x, 0, 7, (s, how) -> s.clause(-1, 0, -1, 0, -1, 0, how));
    }

    /** "CONSTRAINTS, at most 12, are numbered from 0 in the order in which they were added." */
    private static void twelveConstraintsNotThirteen() {
        Call[] kinds = {
            (s, n) -> s.linear(0, 1, 1, 1, 2, 1, 3), (s, n) -> s.reified(0, 0, 0, 0),
            (s, n) -> s.maximum(0, 0, -1, -1), (s, n) -> s.element(0, 0, 0x0100), (s, n) -> s.different(1),
            (s, n) -> s.cumulative(7, 0, 0, 0), (s, n) -> s.clause(0, 1, -1, 0, -1, 0, 0),
        };
        for (int kind = 0; kind < kinds.length; kind++) {
            ExplainingSolver x = withVariables(3);
            for (int n = 0; n < 12; n++) {
                CHECKS.due("kind " + kind + ", constraint " + n, kinds[kind].with(x, n), n);
                CHECKS.due("kind " + kind + ", then constraints()", x.constraints(), n + 1);
            }
            CHECKS.due("kind " + kind + ", a 13th", kinds[kind].with(x, 12), FULL);
            CHECKS.due("kind " + kind + ", then constraints()", x.constraints(), 12);
            x.drop();
            CHECKS.due("kind " + kind + ", a 12th again", kinds[kind].with(x, 12), 11);
        }
    }
}
