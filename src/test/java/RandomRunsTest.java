/** All promises together: long runs of drawn calls, each answer compared with that of Model. */
public final class RandomRunsTest {
    private static final int RUNS = 1500;
    /** After so many calls nothing is promised. */
    private static final int MOST_CALLS = 512;
    /** How many calls compareState makes. */
    private static final int CALLS_OF_STATE = 14;
    private static final int[] WILD = {
        -2, 8, 9, -10, 10, 100, 101, -100, -101, 1000, 1001, -1000, -1001, 21, -21,
        Integer.MAX_VALUE, Integer.MIN_VALUE,
    };
    private static final Checks CHECKS = new Checks();

    private final ExplainingSolver x = new ExplainingSolver();
    private final Model model = new Model();
    private final int run;
    private final int oneWildIn;
    private long state;
    private int calls;

    private RandomRunsTest(int run) {
        this.run = run;
        this.state = run * 7919L + 17;
        this.oneWildIn = run % 3 == 0 ? 12 : 400;
    }

    public static void main(String[] args) {
        for (int run = 0; run < RUNS; run++) {
            new RandomRunsTest(run).go(run % 50 == 0 ? MOST_CALLS : 90);
        }
        CHECKS.end();
    }

    private void go(int mostCalls) {
        int starts = draw(6);
        for (int n = 0; n < starts; n++) {
            callVariable();
        }
        // A call drawn may be compareState, and one more of that ends the run.
        while (calls <= mostCalls - 2 * CALLS_OF_STATE) {
            callAny();
        }
        while (calls < mostCalls - CALLS_OF_STATE) {
            callPile();
        }
        compareState();
        CHECKS.due("run " + run + ": calls made", calls, mostCalls);
    }

    /** A number from 0 to below - 1. */
    private int draw(int below) {
        state = state * 6364136223846793005L + 1442695040888963407L;
        return (int) ((state >>> 33) % below);
    }

    private int between(int lo, int hi) {
        return draw(oneWildIn) == 0 ? WILD[draw(WILD.length)] : lo + draw(hi - lo + 1);
    }

    private int someVariable() {
        return between(0, Math.max(0, model.variables() - 1));
    }

    private int someVariableOrNone() {
        return draw(4) == 0 ? -1 : someVariable();
    }

    private int someSet() {
        return between(0, (1 << model.variables()) - 1);
    }

    /** Numbers of so many bits each that small ones come often. */
    private long someLong(int bits, int most) {
        long row = 0;
        for (int n = 0; n < 64 / bits; n++) {
            row |= ((draw(most + 3) - 2L) & ((1L << bits) - 1)) << (n * bits);
        }
        return row;
    }

    private void callAny() {
        int which = draw(100);
        if (which < 4) {
            callVariable();
        } else if (which < 30) {
            callConstraint(draw(7));
        } else if (which < 52) {
            callPile();
        } else {
            callQuery();
        }
    }

    private void callVariable() {
        int lo = between(-4, 4);
        int hi = draw(20) == 0 ? between(-20, 20) : lo + draw(5);
        due("variable(" + lo + ", " + hi + ")", x.variable(lo, hi), model.variable(lo, hi));
    }

    private void callConstraint(int kind) {
        int r = someVariable();
        int i = someVariable();
        int j = someVariableOrNone();
        int k = someVariableOrNone();
        int c = between(-4, 4);
        String at = kind + " on r " + r + ", i " + i + ", j " + j + ", k " + k + ", c " + c;
        switch (kind) {
            case 0: {
                int a = between(-9, 9);
                int b = between(-9, 9);
                int bound = between(-20, 60);
                due("linear " + at, x.linear(j, a, i, b, k, c, bound), model.linear(j, a, i, b, k, c, bound));
                break;
            }
            case 1:
                due("reified " + at, x.reified(r, i, j, c), model.reified(r, i, j, c));
                break;
            case 2:
                due("maximum " + at, x.maximum(r, i, j, k), model.maximum(r, i, j, k));
                break;
            case 3: {
                long table = someLong(8, 6);
                due("element " + at, x.element(r, i, table), model.element(r, i, table));
                break;
            }
            case 4: {
                int set = someSet();
                due("different " + set, x.different(set), model.different(set));
                break;
            }
            case 5:
                callCumulative();
                break;
            default:
                callClause(j, k, i);
        }
    }

    private void callCumulative() {
        int set = someSet();
        long durations = someLong(4, 5);
        long needs = someLong(4, 4);
        int capacity = between(0, 20);
        due("cumulative " + set + ", " + durations + ", " + needs + ", " + capacity,
                x.cumulative(set, durations, needs, capacity),
                model.cumulative(set, durations, needs, capacity));
    }

    private void callClause(int i, int j, int k) {
        int v = between(-4, 6);
        int w = between(-4, 6);
        int u = between(-4, 6);
        int how = between(0, 7);
        due("clause " + i + " " + v + " " + j + " " + w + " " + k + " " + u + " " + how,
                x.clause(i, v, j, w, k, u, how), model.clause(i, v, j, w, k, u, how));
    }

    private void callPile() {
        int which = draw(10);
        if (which < 4) {
            due("drop()", x.drop(), model.drop());
        } else if (which < 7) {
            due("retract()", x.retract(), model.retract());
        } else {
            int i = someVariable();
            int lo = between(-6, 3);
            int hi = between(0, 8);
            due("assume(" + i + ", " + lo + ", " + hi + ")", x.assume(i, lo, hi), model.assume(i, lo, hi));
        }
    }

    private void callQuery() {
        int i = someVariable();
        switch (draw(6)) {
            case 0:
                due("solve()", x.solve(), model.solve());
                break;
            case 1: {
                boolean most = draw(2) == 0;
                due("best(" + i + ", " + most + ")", x.best(i, most), model.best(i, most));
                break;
            }
            case 2:
                due("least(" + i + ")", x.least(i), model.least(i));
                break;
            case 3:
                due("greatest(" + i + ")", x.greatest(i), model.greatest(i));
                break;
            case 4: {
                int v = between(-5, 8);
                due("implies(" + i + ", " + v + ")", x.implies(i, v), model.implies(i, v));
                break;
            }
            default:
                compareState();
        }
    }

    private void compareState() {
        due("variables()", x.variables(), model.variables());
        due("constraints()", x.constraints(), model.constraints());
        due("assumptions()", x.assumptions(), model.assumptions());
        due("space()", x.space(), model.space());
        for (int i = -1; i <= 8; i++) {
            due("value(" + i + ")", x.value(i), model.value(i));
        }
    }

    private void due(String call, int got, int want) {
        calls++;
        CHECKS.due("run " + run + ": " + call, got, want);
    }

    private void due(String call, boolean got, boolean want) {
        calls++;
        CHECKS.due("run " + run + ": " + call, got, want);
    }
}
