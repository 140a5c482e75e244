/**
 * Promises 3 to 9 with the sentences of "Terms": what the seven kinds say where a number is just enough and
 * where it is one too many, without parts, of an empty set and of a full one, and where bits wrap round.
 */
public final class KindsAtEdgesTest {
    private static final int NONE = ExplainingSolver.NONE;
    private static final Checks CHECKS = new Checks();

    public static void main(String[] args) {
        linearIsAtMostItsBound();
        linearAtTheGreatestSums();
        linearPartsThatArentThereAre0();
        reifiedFromOneOn();
        reifiedWhenAtMost();
        maximumPartsThatArentThereDontCount();
        maximumIsNeitherLessNorMore();
        elementPlaceIs0To7();
        elementBytesAreFromMinus128To127();
        differentEveryPairOfValues();
        differentEveryPairOfVariables();
        differentWithTooFewNumbers();
        cumulativeLastMoment();
        cumulativeNeedIsAtMostTheCapacity();
        cumulativeOfEight();
        cumulativeOfNoneAndOfOthers();
        cumulativeBitsOfEachTask();
        cumulativeAtTheEndsOfTheRange();
        clauseAtItsNumbers();
        clausePartsThatArentThereDontHold();
        clauseWithoutPartsNeverHolds();
        clauseOneAtLeast();
        CHECKS.end();
    }

    /** "a * x(i*) + b * x(j*) + c * x(k*) is at most a bound". */
    private static void linearIsAtMostItsBound() {
        ExplainingSolver x = Checks.fixed(2, -3, 5);
        for (int bound = -40; bound <= 40; bound++) {
            CHECKS.dueHolds("6 + 12 - 5 <= " + bound, x, x.linear(0, 3, 1, -4, 2, -1, bound), bound >= 13);
        }
    }

    private static void linearAtTheGreatestSums() {
        ExplainingSolver x = Checks.fixed(20, -20);
        CHECKS.dueHolds("540 <= 540", x, x.linear(0, 9, 0, 9, 0, 9, 540), true);
        CHECKS.dueHolds("540 <= 539", x, x.linear(0, 9, 0, 9, 0, 9, 539), false);
        CHECKS.dueHolds("-540 <= -540", x, x.linear(1, 9, 1, 9, 0, -9, -540), true);
        CHECKS.dueHolds("-540 <= -541", x, x.linear(1, 9, 1, 9, 0, -9, -541), false);
        CHECKS.dueHolds("540 <= 1000", x, x.linear(0, 9, 0, 9, 1, -9, 1000), true);
        CHECKS.dueHolds("-540 <= -1000", x, x.linear(1, 9, 1, 9, 1, 9, -1000), false);
        CHECKS.dueHolds("0 <= 0", x, x.linear(0, 0, 1, 0, 0, 0, 0), true);
        CHECKS.dueHolds("0 <= -1", x, x.linear(0, 0, 1, 0, 0, 0, -1), false);
    }

    /** "parts that aren't there are 0": each choice of parts, with factors that are not 0. */
    private static void linearPartsThatArentThereAre0() {
        ExplainingSolver x = Checks.fixed(1, 2, 4);
        for (int parts = 0; parts < 8; parts++) {
            int i = (parts & 1) == 0 ? -1 : 0;
            int j = (parts & 2) == 0 ? -1 : 1;
            int k = (parts & 4) == 0 ? -1 : 2;
            CHECKS.dueHolds("parts " + parts + ", 9 times", x, x.linear(i, 9, j, 9, k, 9, 9 * parts), true);
            CHECKS.dueHolds("parts " + parts + ", less", x, x.linear(i, 9, j, 9, k, 9, 9 * parts - 1), false);
            CHECKS.dueHolds("parts " + parts + ", -9 times", x,
                    x.linear(i, -9, j, -9, k, -9, -9 * parts), true);
            CHECKS.dueHolds("parts " + parts + ", -9 times, less", x,
                    x.linear(i, -9, j, -9, k, -9, -9 * parts - 1), false);
        }
    }

    /** "x(r) is 1 or more exactly when ..". */
    private static void reifiedFromOneOn() {
        for (int truth = -20; truth <= 20; truth++) {
            ExplainingSolver x = Checks.fixed(truth, 0);
            CHECKS.dueHolds("x(r) " + truth + ", 0 <= 0", x, x.reified(0, 1, 1, 0), truth >= 1);
            CHECKS.dueHolds("x(r) " + truth + ", 0 <= -1", x, x.reified(0, 1, 1, -1), truth < 1);
        }
    }

    /** ".. x(i) is at most x(j) + c". */
    private static void reifiedWhenAtMost() {
        int[] values = {-20, -1, 0, 1, 20};
        int[] offsets = {-100, -41, -40, -39, -2, -1, 0, 1, 2, 39, 40, 41, 100};
        for (int i : values) {
            for (int j : values) {
                ExplainingSolver x = Checks.fixed(i, j, 0, 1);
                for (int c : offsets) {
                    String told = i + " <= " + j + " + " + c;
                    CHECKS.dueHolds(told + ", x(r) 1", x, x.reified(3, 0, 1, c), i <= j + c);
                    CHECKS.dueHolds(told + ", x(r) 0", x, x.reified(2, 0, 1, c), i > j + c);
                }
            }
        }
    }

    /** Below 0, where a part taken for 0 or -1 would be the greatest. */
    private static void maximumPartsThatArentThereDontCount() {
        ExplainingSolver x = Checks.fixed(-20, -19, -2);
        CHECKS.dueHolds("-20 of -20", x, x.maximum(0, 0, -1, -1), true);
        CHECKS.dueHolds("-19 of -20", x, x.maximum(1, 0, -1, -1), false);
        CHECKS.dueHolds("-19 of -20, -19, none", x, x.maximum(1, 0, 1, -1), true);
        CHECKS.dueHolds("-20 of -20, -19, none", x, x.maximum(0, 0, 1, -1), false);
        CHECKS.dueHolds("-2 of -20, none, -2", x, x.maximum(2, 0, -1, 2), true);
        CHECKS.dueHolds("-20 of -20, none, -2", x, x.maximum(0, 0, -1, 2), false);
        CHECKS.dueHolds("-2 of -20, -19, -2", x, x.maximum(2, 0, 1, 2), true);
        CHECKS.dueHolds("-19 of -20, -19, -2", x, x.maximum(1, 0, 1, 2), false);
    }

    private static void maximumIsNeitherLessNorMore() {
        for (int most = -20; most <= 20; most++) {
            ExplainingSolver x = Checks.fixed(most, 3, 3, -20);
            CHECKS.dueHolds(most + " of 3, 3, -20", x, x.maximum(0, 1, 2, 3), most == 3);
            CHECKS.dueHolds(most + " of -20, 3, 3", x, x.maximum(0, 3, 1, 2), most == 3);
            CHECKS.dueHolds(most + " of 3, -20, itself", x, x.maximum(0, 1, 3, 0), most >= 3);
        }
    }

    /** "x(i) is 0 .. 7": a shift by 8 * x(i) would wrap round for others. */
    private static void elementPlaceIs0To7() {
        for (int place = -20; place <= 20; place++) {
            ExplainingSolver x = Checks.fixed(5, place);
            boolean want = place >= 0 && place <= 7;
            CHECKS.dueHolds("5 at " + place, x, x.element(0, 1, 0x0505050505050505L), want);
        }
        ExplainingSolver y = new ExplainingSolver();
        y.variable(5, 12);
        y.variable(-5, -5);
        y.element(1, 0, 0xfbfbfbfbfbfbfbfbL);
        CHECKS.due("5 .. 12: least(0)", y.least(0), 5);
        CHECKS.due("5 .. 12: greatest(0)", y.greatest(0), 7);
        ExplainingSolver z = new ExplainingSolver();
        z.variable(-5, 2);
        z.element(0, 0, 0x020100);
        CHECKS.due("-5 .. 2: least(0)", z.least(0), 0);
        CHECKS.due("-5 .. 2: greatest(0)", z.greatest(0), 2);
    }

    /** "byte x(i) of a table of eight bytes, each a number from -128 to 127": each of them in each place. */
    private static void elementBytesAreFromMinus128To127() {
        for (int entry = -128; entry <= 127; entry++) {
            for (int place = 0; place < 8; place++) {
                long table = ~((entry & 255L) << (8 * place)) ^ (255L << (8 * place));
                for (int lo = -20; lo <= 20; lo += 8) {
                    dueEntry(entry, place, table, lo, Math.min(lo + 7, 20));
                }
            }
        }
    }

    private static void dueEntry(int entry, int place, long table, int lo, int hi) {
        ExplainingSolver x = new ExplainingSolver();
        x.variable(lo, hi);
        x.variable(place, place);
        x.element(0, 1, table);
        int want = entry >= lo && entry <= hi ? entry : NONE;
        String told = "byte " + place + " is " + entry + ", x(0) from " + lo;
        CHECKS.due(told + ": least(0)", x.least(0), want);
        CHECKS.due(told + ": greatest(0)", x.greatest(0), want);
    }

    /** "no two variables of a set .. have the same value": values 32 apart are not the same either. */
    private static void differentEveryPairOfValues() {
        for (int v = -20; v <= 20; v++) {
            for (int w = -20; w <= 20; w++) {
                ExplainingSolver x = Checks.fixed(v, w);
                CHECKS.dueHolds("different, " + v + " and " + w, x, x.different(3), v != w);
            }
        }
    }

    private static void differentEveryPairOfVariables() {
        for (int i = 0; i < 8; i++) {
            for (int j = 0; j < 8; j++) {
                int[] values = {0, 1, 2, 3, 4, 5, 6, 7};
                values[i] = values[j];
                ExplainingSolver x = Checks.fixed(values);
                String told = "x(" + i + ") is x(" + j + "), different of ";
                CHECKS.dueHolds(told + "all eight", x, x.different(255), i == j);
                CHECKS.dueHolds(told + "all but " + i, x, x.different(255 - (1 << i)), true);
                CHECKS.dueHolds(told + "only " + i, x, x.different(1 << i), true);
                CHECKS.dueHolds(told + "none", x, x.different(0), true);
            }
        }
    }

    private static void differentWithTooFewNumbers() {
        ExplainingSolver x = new ExplainingSolver();
        for (int n = 0; n < 4; n++) {
            x.variable(0, 2);
        }
        x.different(7);
        CHECKS.due("three of three numbers: solve()", x.solve(), true);
        CHECKS.dueAnswer("three of three numbers", x, 0, 1, 2, 0);
        x.different(15);
        CHECKS.due("four of three numbers: solve()", x.solve(), false);
    }

    /** "lasts d(i) moments (x(i), x(i) + 1, ..)": the last of them, and the one after. */
    private static void cumulativeLastMoment() {
        for (int lasts = 0; lasts <= 15; lasts++) {
            for (int start = -2; start <= 16; start++) {
                ExplainingSolver x = Checks.fixed(0, start);
                boolean meet = start < lasts && start + 2 > 0 && lasts > 0;
                String told = "0 lasts " + lasts + ", " + start + " lasts 2";
                CHECKS.dueHolds(told, x, x.cumulative(3, 0x20 + lasts, 0x11, 1), !meet);
                CHECKS.dueHolds(told + ", room", x, x.cumulative(3, 0x20 + lasts, 0x11, 2), true);
            }
        }
    }

    /** "at no moment do the tasks that last then need more than the capacity together". */
    private static void cumulativeNeedIsAtMostTheCapacity() {
        for (int need = 0; need <= 15; need++) {
            for (int capacity = 0; capacity <= 31; capacity++) {
                ExplainingSolver x = Checks.fixed(0, 0);
                String told = "needs " + need + " of " + capacity;
                CHECKS.dueHolds(told, x, x.cumulative(1, 1, need, capacity), need <= capacity);
                CHECKS.dueHolds(told + ", no moment", x, x.cumulative(1, 0, need, capacity), true);
                CHECKS.dueHolds(told + ", two tasks", x,
                        x.cumulative(3, 0x11, 0x11 * need, capacity), 2 * need <= capacity);
            }
        }
        ExplainingSolver x = Checks.fixed(0, 2, 4);
        CHECKS.dueHolds("0-2, 2-4 and 4-5, by twos", x, x.cumulative(7, 0x233, 0x111, 2), true);
        CHECKS.dueHolds("0-4, 2-4 and 4-5, all at 4", x, x.cumulative(7, 0x235, 0x111, 2), false);
        CHECKS.dueHolds("0-4, 2-3 and 4-5, by twos", x, x.cumulative(7, 0x225, 0x111, 2), true);
    }

    private static void cumulativeOfEight() {
        ExplainingSolver x = Checks.fixed(9, 9, 9, 9, 9, 9, 9, 9);
        CHECKS.dueHolds("six need 90 of 90", x, x.cumulative(63, -1, -1, 90), true);
        CHECKS.dueHolds("six need 90 of 89", x, x.cumulative(63, -1, -1, 89), false);
        CHECKS.dueHolds("seven need 105 of 100", x, x.cumulative(127, -1, -1, 100), false);
        CHECKS.dueHolds("eight need 120 of 100", x, x.cumulative(255, -1, -1, 100), false);
        CHECKS.dueHolds("eight need 100 of 100", x, x.cumulative(255, -1, 0xcdcdcdcdL, 100), true);
        CHECKS.dueHolds("eight need 100 of 99", x, x.cumulative(255, -1, 0xcdcdcdcdL, 99), false);
    }

    private static void cumulativeOfNoneAndOfOthers() {
        ExplainingSolver x = Checks.fixed(9, 9, 9, 9, 9, 9, 9, 9);
        CHECKS.dueHolds("no task", x, x.cumulative(0, -1, -1, 0), true);
        for (int i = 0; i < 8; i++) {
            CHECKS.dueHolds("only task " + i, x, x.cumulative(1 << i, -1, -1, 15), true);
            CHECKS.dueHolds("only task " + i + ", no room", x, x.cumulative(1 << i, -1, -1, 14), false);
        }
        ExplainingSolver none = new ExplainingSolver();
        CHECKS.dueHolds("no variables", none, none.cumulative(0, -1, -1, 0), true);
    }

    /** "d(i) and r(i) are the bits 4 i .. 4 i + 3 of two longs": these, and none beside them. */
    private static void cumulativeBitsOfEachTask() {
        ExplainingSolver x = Checks.fixed(0, 0, 0, 0, 0, 0, 0, 0);
        for (int i = 0; i < 8; i++) {
            long bits = 15L << (4 * i);
            CHECKS.dueHolds("task " + i + ", bits of it", x, x.cumulative(1 << i, bits, bits, 14), false);
            CHECKS.dueHolds("task " + i + ", durations of others", x, x.cumulative(1 << i, ~bits, -1, 0), true);
            CHECKS.dueHolds("task " + i + ", needs of others", x, x.cumulative(1 << i, -1, ~bits, 0), true);
        }
        CHECKS.dueHolds("bits 32 .. 63 of durations", x, x.cumulative(255, -1L << 32, -1, 0), true);
        CHECKS.dueHolds("bits 32 .. 63 of needs", x, x.cumulative(255, -1, -1L << 32, 0), true);
        for (int bit = 0; bit < 4; bit++) {
            ExplainingSolver y = Checks.fixed(0, (1 << bit) - 1, 1 << bit);
            long durations = 0x110 + (1 << bit);
            CHECKS.dueHolds("duration bit " + bit, y, y.cumulative(3, durations, 0x111, 1), false);
            CHECKS.dueHolds("duration bit " + bit + ", after", y, y.cumulative(5, durations, 0x111, 1), true);
            CHECKS.dueHolds("need bit " + bit, y, y.cumulative(1, 1, 1 << bit, 1 << bit), true);
            CHECKS.dueHolds("need bit " + bit + ", no room", y, y.cumulative(1, 1, 1 << bit, (1 << bit) - 1), false);
        }
    }

    private static void cumulativeAtTheEndsOfTheRange() {
        ExplainingSolver x = Checks.fixed(-20, -6, -5, 20, 20);
        CHECKS.dueHolds("-20 lasts 15 to -6", x, x.cumulative(3, 0x1f, 0x11, 1), false);
        CHECKS.dueHolds("-20 lasts 15, then -5", x, x.cumulative(5, 0x10f, 0x101, 1), true);
        CHECKS.dueHolds("20 and 20", x, x.cumulative(24, 0xff000, 0x11000, 1), false);
        CHECKS.dueHolds("20 and 20, room", x, x.cumulative(24, 0xff000, 0x11000, 2), true);
    }

    /** "part n says that the variable is at most the number, or, when bit n of how is 1, .. at least". */
    private static void clauseAtItsNumbers() {
        for (int value = -20; value <= 20; value += 5) {
            for (int number = value - 1; number <= value + 1; number++) {
                ExplainingSolver x = Checks.fixed(value);
                for (int how = 0; how < 8; how++) {
                    String told = " of " + value + " and " + number + ", how " + how;
                    boolean[] want = new boolean[3];
                    for (int n = 0; n < 3; n++) {
                        want[n] = (how >> n & 1) == 1 ? value >= number : value <= number;
                    }
                    CHECKS.dueHolds("part 0" + told, x, x.clause(0, number, -1, 0, -1, 0, how), want[0]);
                    CHECKS.dueHolds("part 1" + told, x, x.clause(-1, 0, 0, number, -1, 0, how), want[1]);
                    CHECKS.dueHolds("part 2" + told, x, x.clause(-1, 0, -1, 0, 0, number, how), want[2]);
                }
            }
        }
        ExplainingSolver x = Checks.fixed(20, -20);
        CHECKS.dueHolds("20 is at most 100", x, x.clause(0, 100, -1, 0, -1, 0, 0), true);
        CHECKS.dueHolds("20 is at least 100", x, x.clause(0, 100, -1, 0, -1, 0, 1), false);
        CHECKS.dueHolds("-20 is at least -100", x, x.clause(1, -100, -1, 0, -1, 0, 1), true);
        CHECKS.dueHolds("-20 is at most -100", x, x.clause(1, -100, -1, 0, -1, 0, 0), false);
    }

    /** One part that does not hold, and others that would hold of any value if they were there. */
    private static void clausePartsThatArentThereDontHold() {
        ExplainingSolver x = Checks.fixed(0);
        CHECKS.dueHolds("0 <= -1, at most 100", x, x.clause(0, -1, -1, 100, -1, 100, 0), false);
        CHECKS.dueHolds("0 <= -1, at least -100", x, x.clause(0, -1, -1, -100, -1, -100, 6), false);
        CHECKS.dueHolds("at most 100, 0 <= -1", x, x.clause(-1, 100, 0, -1, -1, 100, 0), false);
        CHECKS.dueHolds("at least -100, 0 <= -1", x, x.clause(-1, -100, 0, -1, -1, -100, 5), false);
        CHECKS.dueHolds("at most 100 twice, 0 <= -1", x, x.clause(-1, 100, -1, 100, 0, -1, 0), false);
        CHECKS.dueHolds("at least -100 twice, 0 <= -1", x, x.clause(-1, -100, -1, -100, 0, -1, 3), false);
    }

    private static void clauseWithoutPartsNeverHolds() {
        int[] numbers = {-100, -1, 0, 1, 100};
        ExplainingSolver x = new ExplainingSolver();
        ExplainingSolver y = Checks.fixed(0, 1);
        for (int how = 0; how < 8; how++) {
            for (int number : numbers) {
                String told = "no parts, " + number + ", how " + how;
                CHECKS.dueHolds(told, x, x.clause(-1, number, -1, number, -1, number, how), false);
                CHECKS.dueHolds(told, y, y.clause(-1, number, -1, number, -1, number, how), false);
            }
        }
    }

    /** "one at least of up to three parts holds": each choice of parts that hold. */
    private static void clauseOneAtLeast() {
        ExplainingSolver x = Checks.fixed(1, 2, 3);
        for (int holding = 0; holding < 8; holding++) {
            int v = (holding & 1) == 0 ? 0 : 1;
            int w = (holding & 2) == 0 ? 1 : 2;
            int u = (holding & 4) == 0 ? 2 : 3;
            CHECKS.dueHolds("parts that hold: " + holding, x, x.clause(0, v, 1, w, 2, u, 0), holding != 0);
        }
    }
}
