import java.util.List;
import java.util.function.Consumer;

/** "Refused, and nothing changes: UNKNOWN .., OUTSIDE .., FULL: the first of these that fits", for each call. */
public final class RefusalsTest extends Told {
    private static final List<Consumer<GardenRules>> STATES_WITH_PARTS = List.of(RefusalsTest::busy,
        RefusalsTest::full);
    private static final List<Consumer<GardenRules>> STATES = List.of(RefusalsTest::nothing, RefusalsTest::busy,
        RefusalsTest::full);

    public static void main(String[] args) {
        busyAndFullAreSo();
        for (Consumer<GardenRules> before : STATES) {
            refusedSensors(before);
            refusedTanks(before);
            refusedAsksAndRuns(before);
            refusedTicksAndCounts(before);
            refusedKinds(before);
            refusedUnknownParts(before);
        }
        refusedNumbersOfRules();
        refusedNumbersOfActs();
        refusedRulesAndActsWhenFull();
        refusedAsksAndRunsWhenFull();
        orderOfRefusalsOfRules();
        orderOfRefusalsOfActs();
        DUE.end();
    }

    // ---- three states

    private static void nothing(GardenRules g) {
        g.why();
    }

    /** RULES and ACTS of all KINDS, some that WAIT, one that FAILED, a half counted OFTEN, and why() is UNKNOWN. */
    private static void busy(GardenRules g) {
        g.show(0, 3);
        g.show(1, 2);
        g.show(2, 7);
        g.show(7, -4);
        g.fill(0, 500);
        g.fill(3, 0);
        above(g, 0, 2);
        near(g, 1, 5, 3);
        other(g, 2);
        share(g, 0, 1, 1);
        pointed(g, 1, 6);
        not(g, 0);
        both(g, 0, 1);
        either(g, 5, 2);
        often(g, 0, 3);
        elses(g, 3, 4);
        pour(g, 0, 20);
        move(g, 0, 1, 30);
        when(g, 8, 0, 1);
        then(g, 0, 1);
        times(g, 3, 2);
        later(g, 0, 2);
        tries(g, 4, 0);
        last(g);
        shows(g, 3, 0);
        pour(g, 3, 1);
        later(g, 9, 1);
        g.ask(8);
        g.run(10);
        g.tick(1);
        g.run(5);
        g.run(10);
        g.run(4);
        g.shown(8);
    }

    /** As much of each as there may be: RULES, ACTS, those that WAIT, those that FAILED, and 20000 ever. */
    private static void full(GardenRules g) {
        doublingRules(g);
        int deep = either(g, 7, 7);
        for (int r = deep + 1; r < 40; r++) {
            no(g);
        }
        int later = later(g, when(g, deep, NONE, NONE), 1), many = times(g, times(g, later, 9), 9);
        for (int x = many + 1; x < 40; x++) {
            pour(g, 0, 1);
        }
        g.run(many);
        g.tick(1);
        g.run(many);
        g.run(39);
        spend(g, 20000 - g.count(6));
    }

    private static void busyAndFullAreSo() {
        GardenRules busy = new GardenRules(), full = new GardenRules();
        busy(busy);
        full(full);
        int[] busyCounts = {10, 11, 2, 1, 1, 7}, fullCounts = {40, 40, 60, 1, 30};
        for (int what = 0; what < busyCounts.length; what++) {
            due("busy, count(" + what + ")", busy.count(what), busyCounts[what]);
        }
        for (int what = 0; what < fullCounts.length; what++) {
            due("full, count(" + what + ")", full.count(what), fullCounts[what]);
        }
        due("full, count(6)", full.count(6), 20000);
        due("busy, why()", busy.why(), UNKNOWN);
        due("busy, amount()", busy.amount(), 100);
        due("full, amount()", full.amount(), 1);
    }

    // ---- each call, in each of them

    private static void refusedSensors(Consumer<GardenRules> before) {
        for (int s : new int[] {-1, 8, LEAST, GREATEST}) {
            Twins.refusedBySensor(DUE, "show(" + s + ", 9)", before, g -> g.show(s, 9));
            Twins.refusedBySensor(DUE, "shown(" + s + ")", before, g -> g.shown(s));
        }
    }

    private static void refusedTanks(Consumer<GardenRules> before) {
        for (int t : new int[] {-1, 6, LEAST, GREATEST}) {
            Twins.refused(DUE, "tank(" + t + ")", before, g -> g.tank(t), UNKNOWN);
            Twins.refused(DUE, "fill(" + t + ", 9)", before, g -> g.fill(t, 9), UNKNOWN);
            Twins.refused(DUE, "fill(" + t + ", -1)", before, g -> g.fill(t, -1), UNKNOWN);
        }
        for (int n : new int[] {-1, 1000001, LEAST, GREATEST}) {
            Twins.refused(DUE, "fill(5, " + n + ")", before, g -> g.fill(5, n), OUTSIDE);
        }
    }

    private static void refusedAsksAndRuns(Consumer<GardenRules> before) {
        for (int n : new int[] {-1, 40, LEAST, GREATEST}) {
            Twins.refused(DUE, "ask(" + n + ")", before, g -> g.ask(n), UNKNOWN);
            Twins.refused(DUE, "run(" + n + ")", before, g -> g.run(n), UNKNOWN);
        }
        Twins.refused(DUE, "ask() of the next", before, g -> g.ask(g.count(0)), UNKNOWN);
        Twins.refused(DUE, "run() of the next", before, g -> g.run(g.count(1)), UNKNOWN);
    }

    private static void refusedTicksAndCounts(Consumer<GardenRules> before) {
        for (int n : new int[] {0, -1, 51, LEAST, GREATEST}) {
            Twins.refused(DUE, "tick(" + n + ")", before, g -> g.tick(n), OUTSIDE);
        }
        for (int what : new int[] {-1, 7, LEAST, GREATEST}) {
            Twins.refused(DUE, "count(" + what + ")", before, g -> g.count(what), OUTSIDE);
        }
        for (int what : new int[] {-1, 3, LEAST, GREATEST}) {
            Twins.refused(DUE, "failed(0, " + what + ")", before, g -> g.failed(0, what), OUTSIDE);
        }
    }

    private static void refusedKinds(Consumer<GardenRules> before) {
        for (int kind : new int[] {-1, 10, LEAST, GREATEST}) {
            Twins.refused(DUE, "rule of KIND " + kind, before, g -> g.rule(kind, 0, 1, 0), OUTSIDE);
        }
        for (int kind : new int[] {-1, 9, LEAST, GREATEST}) {
            Twins.refused(DUE, "act of KIND " + kind, before, g -> g.act(kind, 0, 1, 0), OUTSIDE);
        }
    }

    private static void refusedUnknownParts(Consumer<GardenRules> before) {
        for (int part : new int[] {-2, 40, LEAST, GREATEST}) {
            for (int kind = 0; kind <= 9; kind++) {
                int k = kind;
                Twins.refused(DUE, "rule(" + k + ", " + part + ", ..)", before, g -> g.rule(k, part, 1, 0), UNKNOWN);
                if (k != 7 && k <= 8) {
                    Twins.refused(DUE, "act(" + k + ", " + part + ", ..)", before, g -> g.act(k, part, 1, 0), UNKNOWN);
                }
            }
        }
    }

    private static void refusedNumbersOfRules() {
        for (Consumer<GardenRules> before : STATES_WITH_PARTS) {
            for (int c : new int[] {-1, LEAST}) {
                Twins.refused(DUE, "NEAR by " + c, before, g -> near(g, 0, 0, c), OUTSIDE);
            }
            for (int b : new int[] {0, -1, 101, LEAST, GREATEST}) {
                Twins.refused(DUE, "OFTEN " + b, before, g -> often(g, 0, b), OUTSIDE);
            }
            Twins.refused(DUE, "SHARE by 8", before, g -> share(g, 0, 8, 0), UNKNOWN);
            for (int kind : new int[] {6, 7, 9}) {
                Twins.refused(DUE, "KIND " + kind + ", b 40", before, g -> g.rule(kind, 0, 40, 0), UNKNOWN);
            }
        }
    }

    private static void refusedNumbersOfActs() {
        for (Consumer<GardenRules> before : STATES_WITH_PARTS) {
            for (int n : new int[] {-1, 1001, LEAST, GREATEST}) {
                Twins.refused(DUE, "POUR " + n, before, g -> pour(g, 0, n), OUTSIDE);
                Twins.refused(DUE, "MOVE " + n, before, g -> move(g, 0, 1, n), OUTSIDE);
                Twins.refused(DUE, "TIMES " + n, before, g -> times(g, 0, n), OUTSIDE);
                Twins.refused(DUE, "LATER " + n, before, g -> later(g, 0, n), OUTSIDE);
                Twins.refused(DUE, "MOVE to " + n, before, g -> move(g, 0, n, 1), UNKNOWN);
                Twins.refused(DUE, "SHOW of " + n, before, g -> shows(g, 0, n), UNKNOWN);
                Twins.refused(DUE, "THEN " + n, before, g -> then(g, 0, n), UNKNOWN);
                Twins.refused(DUE, "TRY " + n, before, g -> tries(g, 0, n), UNKNOWN);
            }
            Twins.refused(DUE, "TIMES 10", before, g -> times(g, 0, 10), OUTSIDE);
            Twins.refused(DUE, "LATER 101", before, g -> later(g, 0, 101), OUTSIDE);
            Twins.refused(DUE, "WHEN b", before, g -> when(g, 0, 40, 0), UNKNOWN);
            Twins.refused(DUE, "WHEN c", before, g -> when(g, 0, 0, 40), UNKNOWN);
        }
    }

    private static void refusedRulesAndActsWhenFull() {
        for (int kind = 0; kind <= 9; kind++) {
            int k = kind;
            Twins.refused(DUE, "a 41st RULE of KIND " + k, RefusalsTest::full, g -> g.rule(k, 0, 1, 0), FULL);
            if (k <= 8) {
                Twins.refused(DUE, "a 41st ACT of KIND " + k, RefusalsTest::full, g -> g.act(k, 0, 1, 0), FULL);
            }
        }
    }

    private static void refusedAsksAndRunsWhenFull() {
        for (int n : new int[] {0, 7, 39}) {
            Twins.refused(DUE, "ask(" + n + "), 20000 were", RefusalsTest::full, g -> g.ask(n), FULL);
            Twins.refused(DUE, "run(" + n + "), 20000 were", RefusalsTest::full, g -> g.run(n), FULL);
        }
    }

    // ---- the first that fits

    /** Each of the KINDS, with parts that are known or not and numbers as told or not, while there is room and not. */
    private static void orderOfRefusalsOfRules() {
        for (boolean isFull : new boolean[] {false, true}) {
            GardenRules g = new GardenRules();
            for (int r = 0; r < (isFull ? 40 : 2); r++) {
                yes(g);
            }
            int[][] unknownAndOutside = {{1, 8, 0, -1}, {1, -1, 0, LEAST}, {8, 40, 0, 0}, {8, -1, 101, 0}};
            for (int[] t : unknownAndOutside) {
                due("rule, UNKNOWN ahead of OUTSIDE, full " + isFull, g.rule(t[0], t[1], t[2], t[3]), UNKNOWN);
            }
            int[][] outside = {{1, 0, 0, -1}, {8, 0, 0, 0}, {8, 0, 101, 0}};
            for (int[] t : outside) {
                due("rule, OUTSIDE ahead of FULL, full " + isFull, g.rule(t[0], t[1], t[2], t[3]), OUTSIDE);
            }
            int[][] kind = {{-1, 8, 0, -1}, {10, 40, 40, 0}, {10, 0, 0, 0}};
            for (int[] t : kind) {
                due("rule, KIND ahead of all, full " + isFull, g.rule(t[0], t[1], t[2], t[3]), OUTSIDE);
            }
            due("rule, nothing else, full " + isFull, above(g, 0, 0), isFull ? FULL : 2);
        }
    }

    private static void orderOfRefusalsOfActs() {
        for (boolean isFull : new boolean[] {false, true}) {
            GardenRules g = new GardenRules();
            yes(g);
            for (int x = 0; x < (isFull ? 40 : 2); x++) {
                pour(g, 0, 0);
            }
            int[][] unknownAndOutside = {{0, 6, -1, 0}, {0, -1, 1001, 0}, {1, 6, 0, -1}, {1, 0, 6, 1001},
                {4, 40, -1, 0}, {4, -1, 10, 0}, {5, 40, -1, 0}, {5, -1, 101, 0}};
            for (int[] t : unknownAndOutside) {
                due("act, UNKNOWN ahead of OUTSIDE, full " + isFull, g.act(t[0], t[1], t[2], t[3]), UNKNOWN);
            }
            int[][] outside = {{0, 0, -1, 0}, {0, 0, 1001, 0}, {1, 0, 1, -1}, {1, 0, 1, 1001}, {4, 0, -1, 0},
                {4, 0, 10, 0}, {5, 0, -1, 0}, {5, 0, 101, 0}};
            for (int[] t : outside) {
                due("act, OUTSIDE ahead of FULL, full " + isFull, g.act(t[0], t[1], t[2], t[3]), OUTSIDE);
            }
            int[][] kind = {{-1, 6, -1, 0}, {9, 40, 40, 0}, {9, 0, 0, 0}};
            for (int[] t : kind) {
                due("act, KIND ahead of all, full " + isFull, g.act(t[0], t[1], t[2], t[3]), OUTSIDE);
            }
            due("act, nothing else, full " + isFull, pour(g, 0, 0), isFull ? FULL : 2);
        }
    }
}
