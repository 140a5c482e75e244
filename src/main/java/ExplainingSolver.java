import java.util.Arrays;

/**
 * A solver for bounded whole numbers under constraints of seven kinds: whether there is a
 * solution, which is the first one, which the best, and what all solutions have in common.
 *
 * <p>The space has so few points that each is kept, in the order of "before", with the number of
 * the first constraint that fails there. So a constraint is looked at only while it is added, and
 * need not be kept: a variable that comes later can't occur in it.
 */
public final class ExplainingSolver {
    public static final int BAD = -1;
    public static final int FULL = -2;
    public static final int NONE = 1000;

    private static final int ABSENT = -1;
    private static final int LOWEST = -20;
    private static final int HIGHEST = 20;
    private static final int WIDEST = 8;
    private static final int MOST_VARIABLES = 8;
    private static final int MOST_POINTS = 4096;
    private static final int MOST_CONSTRAINTS = 12;
    private static final int MOST_ASSUMPTIONS = 8;
    private static final int MOST_FACTOR = 9;
    private static final int MOST_BOUND = 1000;
    private static final int MOST_OFFSET = 100;
    private static final int MOST_CAPACITY = 100;
    private static final int MOST_HOW = 7;

    /** In brokenBy: no constraint fails at that point. */
    private static final int UNBROKEN = MOST_CONSTRAINTS;

    private final int[] rangeLo = new int[MOST_VARIABLES];
    private final int[] rangeHi = new int[MOST_VARIABLES];
    private int variableCount;

    /** For each point of the space, the number of the first constraint that fails there. */
    private final int[] brokenBy = new int[MOST_POINTS];
    private int pointCount;
    private int constraintCount;

    private final int[] assumedVariable = new int[MOST_ASSUMPTIONS];
    private final int[] assumedLo = new int[MOST_ASSUMPTIONS];
    private final int[] assumedHi = new int[MOST_ASSUMPTIONS];
    private int assumptionCount;

    private final int[] answer = new int[MOST_VARIABLES];
    private boolean answered;

    /** The values at the point that a walk through the space has come to. */
    private final int[] point = new int[MOST_VARIABLES];
    /** The solution that search kept. */
    private final int[] found = new int[MOST_VARIABLES];

    public ExplainingSolver() {
        pointCount = 1;
        Arrays.fill(brokenBy, UNBROKEN);
    }

    public int variable(int lo, int hi) {
        if (lo < LOWEST || lo > hi || hi > HIGHEST || hi - lo >= WIDEST) {
            return BAD;
        }
        int size = hi - lo + 1;
        if (variableCount >= MOST_VARIABLES || pointCount * size > MOST_POINTS) {
            return FULL;
        }
        splitPoints(size);
        rangeLo[variableCount] = lo;
        rangeHi[variableCount] = hi;
        answered = false;
        return variableCount++;
    }

    public int linear(int i, int a, int j, int b, int k, int c, int bound) {
        boolean good = areVariablesOrAbsent(i, j, k)
                && isWithin(a, MOST_FACTOR) && isWithin(b, MOST_FACTOR) && isWithin(c, MOST_FACTOR)
                && isWithin(bound, MOST_BOUND);
        return good ? add(new Linear(i, a, j, b, k, c, bound)) : BAD;
    }

    public int reified(int r, int i, int j, int c) {
        boolean good = isVariable(r) && isVariable(i) && isVariable(j) && isWithin(c, MOST_OFFSET);
        return good ? add(new Reified(r, i, j, c)) : BAD;
    }

    public int maximum(int r, int i, int j, int k) {
        boolean good = isVariable(r) && isVariable(i)
                && isVariableOrAbsent(j) && isVariableOrAbsent(k);
        return good ? add(new Maximum(r, i, j, k)) : BAD;
    }

    public int element(int r, int i, long table) {
        boolean good = isVariable(r) && isVariable(i);
        return good ? add(new Element(r, i, table)) : BAD;
    }

    public int different(int set) {
        return isSetOfVariables(set) ? add(new Different(set)) : BAD;
    }

    public int cumulative(int set, long durations, long needs, int capacity) {
        boolean good = isSetOfVariables(set) && capacity >= 0 && capacity <= MOST_CAPACITY;
        return good ? add(new Cumulative(set, durations, needs, capacity)) : BAD;
    }

    public int clause(int i, int v, int j, int w, int k, int u, int how) {
        boolean good = areVariablesOrAbsent(i, j, k)
                && isWithin(v, MOST_OFFSET) && isWithin(w, MOST_OFFSET) && isWithin(u, MOST_OFFSET)
                && how >= 0 && how <= MOST_HOW;
        return good ? add(new Clause(i, v, j, w, k, u, how)) : BAD;
    }

    public boolean drop() {
        if (constraintCount == 0) {
            return false;
        }
        constraintCount--;
        for (int p = 0; p < pointCount; p++) {
            if (brokenBy[p] == constraintCount) {
                brokenBy[p] = UNBROKEN;
            }
        }
        answered = false;
        return true;
    }

    public boolean assume(int i, int lo, int hi) {
        if (!isVariable(i) || assumptionCount >= MOST_ASSUMPTIONS) {
            return false;
        }
        assumedVariable[assumptionCount] = i;
        assumedLo[assumptionCount] = lo;
        assumedHi[assumptionCount] = hi;
        assumptionCount++;
        answered = false;
        return true;
    }

    public boolean retract() {
        if (assumptionCount == 0) {
            return false;
        }
        assumptionCount--;
        answered = false;
        return true;
    }

    public boolean solve() {
        // Weight 0 makes all solutions equally good, so the first one stays.
        return keepAsAnswer(search(0, 0));
    }

    public boolean best(int i, boolean most) {
        return isVariable(i) && keepAsAnswer(search(i, most ? -1 : 1));
    }

    public int value(int i) {
        return answered && isVariable(i) ? answer[i] : NONE;
    }

    public int least(int i) {
        return isVariable(i) && search(i, 1) ? found[i] : NONE;
    }

    public int greatest(int i) {
        return isVariable(i) && search(i, -1) ? found[i] : NONE;
    }

    public boolean implies(int i, int v) {
        return isVariable(i) && (!search(i, -1) || found[i] <= v);
    }

    public int variables() {
        return variableCount;
    }

    public int constraints() {
        return constraintCount;
    }

    public int assumptions() {
        return assumptionCount;
    }

    public int space() {
        return pointCount;
    }

    private boolean isVariable(int i) {
        return i >= 0 && i < variableCount;
    }

    private boolean isVariableOrAbsent(int i) {
        return i == ABSENT || isVariable(i);
    }

    private boolean areVariablesOrAbsent(int i, int j, int k) {
        return isVariableOrAbsent(i) && isVariableOrAbsent(j) && isVariableOrAbsent(k);
    }

    private boolean isSetOfVariables(int set) {
        return set >= 0 && set < (1 << variableCount);
    }

    private static boolean isWithin(int number, int most) {
        return number >= -most && number <= most;
    }

    private static boolean isIn(int i, int set) {
        return ((set >> i) & 1) == 1;
    }

    /** Puts as many points as a new variable has values in the place of each point. */
    private void splitPoints(int size) {
        // From the last point down, so that none is written over before it is read.
        for (int p = pointCount - 1; p >= 0; p--) {
            int breaker = brokenBy[p];
            for (int n = 0; n < size; n++) {
                brokenBy[p * size + n] = breaker;
            }
        }
        pointCount = pointCount * size;
    }

    private int add(Constraint added) {
        if (constraintCount >= MOST_CONSTRAINTS) {
            return FULL;
        }
        goToFirstPoint();
        for (int p = 0; p < pointCount; p++) {
            if (brokenBy[p] == UNBROKEN && !added.holdsAt(point)) {
                brokenBy[p] = constraintCount;
            }
            goToNextPoint();
        }
        answered = false;
        return constraintCount++;
    }

    private void goToFirstPoint() {
        System.arraycopy(rangeLo, 0, point, 0, variableCount);
    }

    private void goToNextPoint() {
        for (int i = variableCount - 1; i >= 0; i--) {
            if (point[i] < rangeHi[i]) {
                point[i]++;
                return;
            }
            point[i] = rangeLo[i];
        }
    }

    /** Whether there is a solution; found is the first of those with the least weight * x(i). */
    private boolean search(int i, int weight) {
        // What no value of x(i) can better: the walk may end there.
        int goal = Math.min(weight * rangeLo[i], weight * rangeHi[i]);
        boolean any = false;
        goToFirstPoint();
        for (int p = 0; p < pointCount; p++) {
            if (brokenBy[p] == UNBROKEN && isAsAssumed()
                    && (!any || weight * point[i] < weight * found[i])) {
                System.arraycopy(point, 0, found, 0, variableCount);
                any = true;
                if (weight * point[i] == goal) {
                    return true;
                }
            }
            goToNextPoint();
        }
        return any;
    }

    private boolean isAsAssumed() {
        for (int n = 0; n < assumptionCount; n++) {
            int x = point[assumedVariable[n]];
            if (x < assumedLo[n] || x > assumedHi[n]) {
                return false;
            }
        }
        return true;
    }

    private boolean keepAsAnswer(boolean any) {
        if (any) {
            System.arraycopy(found, 0, answer, 0, variableCount);
        }
        answered = any;
        return any;
    }

    private interface Constraint {
        boolean holdsAt(int[] x);
    }

    private record Linear(int i, int a, int j, int b, int k, int c, int bound)
            implements Constraint {
        public boolean holdsAt(int[] x) {
            return product(a, i, x) + product(b, j, x) + product(c, k, x) <= bound;
        }

        private static int product(int factor, int i, int[] x) {
            return i == ABSENT ? 0 : factor * x[i];
        }
    }

    private record Reified(int r, int i, int j, int c) implements Constraint {
        public boolean holdsAt(int[] x) {
            return (x[r] >= 1) == (x[i] <= x[j] + c);
        }
    }

    private record Maximum(int r, int i, int j, int k) implements Constraint {
        public boolean holdsAt(int[] x) {
            int most = x[i];
            if (j != ABSENT) {
                most = Math.max(most, x[j]);
            }
            if (k != ABSENT) {
                most = Math.max(most, x[k]);
            }
            return x[r] == most;
        }
    }

    private record Element(int r, int i, long table) implements Constraint {
        public boolean holdsAt(int[] x) {
            return x[i] >= 0 && x[i] <= 7 && x[r] == (byte) (table >> (8 * x[i]));
        }
    }

    private record Different(int set) implements Constraint {
        public boolean holdsAt(int[] x) {
            long seen = 0;
            for (int i = 0; i < MOST_VARIABLES; i++) {
                if (isIn(i, set)) {
                    long bit = 1L << (x[i] - LOWEST);
                    if ((seen & bit) != 0) {
                        return false;
                    }
                    seen |= bit;
                }
            }
            return true;
        }
    }

    private record Cumulative(int set, long durations, long needs, int capacity)
            implements Constraint {
        public boolean holdsAt(int[] x) {
            // The need grows only where a task begins, so no other moment has to be looked at.
            for (int i = 0; i < MOST_VARIABLES; i++) {
                if (isIn(i, set) && needAt(x[i], x) > capacity) {
                    return false;
                }
            }
            return true;
        }

        private int needAt(int moment, int[] x) {
            int need = 0;
            for (int i = 0; i < MOST_VARIABLES; i++) {
                if (isIn(i, set) && x[i] <= moment && moment < x[i] + fourBits(durations, i)) {
                    need += fourBits(needs, i);
                }
            }
            return need;
        }

        private static int fourBits(long row, int i) {
            return (int) (row >> (4 * i)) & 15;
        }
    }

    private record Clause(int i, int v, int j, int w, int k, int u, int how)
            implements Constraint {
        public boolean holdsAt(int[] x) {
            return partHolds(i, v, 0, x) || partHolds(j, w, 1, x) || partHolds(k, u, 2, x);
        }

        private boolean partHolds(int n, int number, int part, int[] x) {
            if (n == ABSENT) {
                return false;
            }
            return isIn(part, how) ? x[n] >= number : x[n] <= number;
        }
    }
}
