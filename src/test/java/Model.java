import java.util.ArrayList;
import java.util.List;

/** The document in its most literal form: it lists all solutions and reads every answer off the list. */
final class Model {
    private interface Rule {
        boolean allows(int[] x);
    }

    private final List<int[]> ranges = new ArrayList<>();
    private final List<Rule> rules = new ArrayList<>();
    private final List<int[]> assumed = new ArrayList<>();
    private List<int[]> solutions;
    private int[] answer;

    int variable(int lo, int hi) {
        if (!(-20 <= lo && lo <= hi && hi <= 20 && hi - lo <= 7)) {
            return -1;
        }
        if (ranges.size() == 8 || space() * (hi - lo + 1) > 4096) {
            return -2;
        }
        ranges.add(new int[] {lo, hi});
        changed();
        return ranges.size() - 1;
    }

    int linear(int i, int a, int j, int b, int k, int c, int bound) {
        boolean bad = noPart(i) || noPart(j) || noPart(k) || Math.abs((long) a) > 9
                || Math.abs((long) b) > 9 || Math.abs((long) c) > 9 || Math.abs((long) bound) > 1000;
        return rule(bad, x -> {
            int sum = 0;
            sum += i == -1 ? 0 : a * x[i];
            sum += j == -1 ? 0 : b * x[j];
            sum += k == -1 ? 0 : c * x[k];
            return sum <= bound;
        });
    }

    int reified(int r, int i, int j, int c) {
        boolean bad = none(r) || none(i) || none(j) || Math.abs((long) c) > 100;
        return rule(bad, x -> x[r] >= 1 ? x[i] <= x[j] + c : x[i] > x[j] + c);
    }

    int maximum(int r, int i, int j, int k) {
        boolean bad = none(r) || none(i) || noPart(j) || noPart(k);
        return rule(bad, x -> {
            boolean reached = x[r] == x[i] || j != -1 && x[r] == x[j] || k != -1 && x[r] == x[k];
            return reached && x[r] >= x[i] && (j == -1 || x[r] >= x[j]) && (k == -1 || x[r] >= x[k]);
        });
    }

    int element(int r, int i, long table) {
        return rule(none(r) || none(i), x -> {
            if (x[i] < 0 || x[i] > 7) {
                return false;
            }
            long entry = (table >>> (8 * x[i])) % 256;
            entry = entry < 0 ? entry + 256 : entry;
            return x[r] == (entry >= 128 ? entry - 256 : entry);
        });
    }

    int different(int set) {
        return rule(noSet(set), x -> {
            for (int i = 0; i < 8; i++) {
                for (int j = 0; j < i; j++) {
                    if (has(set, i) && has(set, j) && x[i] == x[j]) {
                        return false;
                    }
                }
            }
            return true;
        });
    }

    int cumulative(int set, long durations, long needs, int capacity) {
        return rule(noSet(set) || capacity < 0 || capacity > 100, x -> {
            int[] load = new int[64];
            for (int i = 0; i < 8; i++) {
                int lasts = has(set, i) ? (int) ((durations >>> (4 * i)) & 15) : 0;
                for (int n = 0; n < lasts; n++) {
                    load[20 + x[i] + n] += (int) ((needs >>> (4 * i)) & 15);
                }
            }
            for (int need : load) {
                if (need > capacity) {
                    return false;
                }
            }
            return true;
        });
    }

    int clause(int i, int v, int j, int w, int k, int u, int how) {
        boolean bad = noPart(i) || noPart(j) || noPart(k) || Math.abs((long) v) > 100
                || Math.abs((long) w) > 100 || Math.abs((long) u) > 100 || how < 0 || how > 7;
        int[] at = {i, j, k};
        int[] number = {v, w, u};
        return rule(bad, x -> {
            for (int n = 0; n < 3; n++) {
                if (at[n] != -1 && (has(how, n) ? x[at[n]] >= number[n] : x[at[n]] <= number[n])) {
                    return true;
                }
            }
            return false;
        });
    }

    boolean drop() {
        if (rules.isEmpty()) {
            return false;
        }
        rules.remove(rules.size() - 1);
        changed();
        return true;
    }

    boolean assume(int i, int lo, int hi) {
        if (none(i) || assumed.size() == 8) {
            return false;
        }
        assumed.add(new int[] {i, lo, hi});
        changed();
        return true;
    }

    boolean retract() {
        if (assumed.isEmpty()) {
            return false;
        }
        assumed.remove(assumed.size() - 1);
        changed();
        return true;
    }

    boolean solve() {
        answer = all().isEmpty() ? null : all().get(0);
        return answer != null;
    }

    boolean best(int i, boolean most) {
        if (none(i)) {
            return false;
        }
        int wanted = most ? greatest(i) : least(i);
        answer = null;
        for (int[] x : all()) {
            if (answer == null && x[i] == wanted) {
                answer = x;
            }
        }
        return answer != null;
    }

    int value(int i) {
        return answer == null || none(i) ? 1000 : answer[i];
    }

    int least(int i) {
        int least = 1000;
        if (!none(i)) {
            for (int[] x : all()) {
                least = Math.min(least, x[i]);
            }
        }
        return least;
    }

    int greatest(int i) {
        if (none(i) || all().isEmpty()) {
            return 1000;
        }
        int greatest = -1000;
        for (int[] x : all()) {
            greatest = Math.max(greatest, x[i]);
        }
        return greatest;
    }

    boolean implies(int i, int v) {
        if (none(i)) {
            return false;
        }
        for (int[] x : all()) {
            if (x[i] > v) {
                return false;
            }
        }
        return true;
    }

    int variables() {
        return ranges.size();
    }

    int constraints() {
        return rules.size();
    }

    int assumptions() {
        return assumed.size();
    }

    int space() {
        int space = 1;
        for (int[] range : ranges) {
            space *= range[1] - range[0] + 1;
        }
        return space;
    }

    private void changed() {
        answer = null;
        solutions = null;
    }

    private int rule(boolean bad, Rule rule) {
        if (bad) {
            return -1;
        }
        if (rules.size() == 12) {
            return -2;
        }
        rules.add(rule);
        changed();
        return rules.size() - 1;
    }

    private List<int[]> all() {
        if (solutions == null) {
            solutions = new ArrayList<>();
            list(0, new int[8]);
        }
        return solutions;
    }

    private void list(int i, int[] x) {
        if (i == ranges.size()) {
            if (isSolution(x)) {
                solutions.add(x.clone());
            }
            return;
        }
        for (int v = ranges.get(i)[0]; v <= ranges.get(i)[1]; v++) {
            x[i] = v;
            list(i + 1, x);
        }
    }

    private boolean isSolution(int[] x) {
        for (int[] a : assumed) {
            if (x[a[0]] < a[1] || x[a[0]] > a[2]) {
                return false;
            }
        }
        for (Rule rule : rules) {
            if (!rule.allows(x)) {
                return false;
            }
        }
        return true;
    }

    private boolean none(int i) {
        return i < 0 || i >= ranges.size();
    }

    private boolean noPart(int i) {
        return i != -1 && none(i);
    }

    private boolean noSet(int set) {
        return set < 0 || set >= Math.pow(2, ranges.size());
    }

    private static boolean has(int set, int i) {
        return set / (1 << i) % 2 == 1;
    }
}
