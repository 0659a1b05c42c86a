/** For tests to extend: RULES and ACTS told by the names of their KINDS, and answers compared with those due. */
abstract class Told {
    static final int NONE = GardenRules.NONE, UNKNOWN = GardenRules.UNKNOWN;
    static final int OUTSIDE = GardenRules.OUTSIDE, FULL = GardenRules.FULL;
    // FAILURES as ask() and run() tell them; MISSING is the FAILURE called NONE.
    static final int ZERO = -11, INDEX = -12, DRY = -13, MISSING = -14, DEEP = -15;
    static final int LEAST = Integer.MIN_VALUE, GREATEST = Integer.MAX_VALUE;

    static final Due DUE = new Due();

    static void due(String call, long got, long want) {
        DUE.due(call, got, want);
    }

    static int above(GardenRules g, int s, int b) {
        return g.rule(0, s, b, 0);
    }

    static int near(GardenRules g, int s, int b, int c) {
        return g.rule(1, s, b, c);
    }

    static int other(GardenRules g, int s) {
        return g.rule(2, s, 0, 0);
    }

    static int share(GardenRules g, int s, int by, int c) {
        return g.rule(3, s, by, c);
    }

    static int pointed(GardenRules g, int s, int b) {
        return g.rule(4, s, b, 0);
    }

    static int not(GardenRules g, int r) {
        return g.rule(5, r, 0, 0);
    }

    static int both(GardenRules g, int a, int b) {
        return g.rule(6, a, b, 0);
    }

    static int either(GardenRules g, int a, int b) {
        return g.rule(7, a, b, 0);
    }

    static int often(GardenRules g, int r, int b) {
        return g.rule(8, r, b, 0);
    }

    static int elses(GardenRules g, int a, int b) {
        return g.rule(9, a, b, 0);
    }

    /** A RULE that says yes while SENSOR 0 shows 0. */
    static int yes(GardenRules g) {
        return above(g, 0, -1);
    }

    /** A RULE that says no while SENSOR 0 shows 0. */
    static int no(GardenRules g) {
        return above(g, 0, 0);
    }

    /** A RULE that FAILS by ZERO while SENSOR 0 shows 0. */
    static int zero(GardenRules g) {
        return share(g, 0, 0, 0);
    }

    /** A RULE that FAILS by INDEX: SENSOR 1 shows 8. */
    static int index(GardenRules g) {
        g.show(1, 8);
        return pointed(g, 1, 0);
    }

    static int pour(GardenRules g, int t, int n) {
        return g.act(0, t, n, 0);
    }

    static int move(GardenRules g, int from, int to, int n) {
        return g.act(1, from, to, n);
    }

    static int when(GardenRules g, int r, int b, int c) {
        return g.act(2, r, b, c);
    }

    static int then(GardenRules g, int a, int b) {
        return g.act(3, a, b, 0);
    }

    static int times(GardenRules g, int x, int n) {
        return g.act(4, x, n, 0);
    }

    static int later(GardenRules g, int x, int n) {
        return g.act(5, x, n, 0);
    }

    static int tries(GardenRules g, int a, int b) {
        return g.act(6, a, b, 0);
    }

    static int last(GardenRules g) {
        return g.act(7, 0, 0, 0);
    }

    static int shows(GardenRules g, int s, int t) {
        return g.act(8, s, t, 0);
    }

    /** An ACT that FAILS by DRY: no TANK ever has 1000 here without fill() or MOVE. */
    static int dry(GardenRules g) {
        return pour(g, 5, 1000);
    }

    static void runTimes(GardenRules g, int x, int n) {
        for (int i = 0; i < n; i++) {
            g.run(x);
        }
    }

    /** RULES 0 .. 7 that say no while SENSOR 0 shows 0; RULE r asks 2 ^ (r + 1) - 1, itself among them. */
    static void doublingRules(GardenRules g) {
        no(g);
        for (int r = 0; r < 7; r++) {
            either(g, r, r);
        }
    }

    /** A RULE that asks 295 in all and says no; needs doublingRules(). */
    static int no295(GardenRules g) {
        int no287 = either(g, 7, 4);
        return either(g, no287, 2);
    }

    /** Asks, by doublingRules() and few calls, n RULES in all. */
    static void spend(GardenRules g, int n) {
        int left = n;
        for (int r = 7; r >= 0; r--) {
            int asked = (2 << r) - 1;
            for (; left >= asked; left -= asked) {
                g.ask(r);
            }
        }
    }

    static void tanks(String when, GardenRules g, int... want) {
        for (int t = 0; t < want.length; t++) {
            due(when + ", tank(" + t + ")", g.tank(t), want[t]);
        }
    }

    /** Runs an ACT: what run(), amount() and count(5) answer then. */
    static void comesTo(String what, GardenRules g, int x, int answer, int amount, int begun) {
        due(what + ", run(" + x + ")", g.run(x), answer);
        due(what + ", amount()", g.amount(), amount);
        due(what + ", count(5)", g.count(5), begun);
    }

    /** Asks a RULE: what ask() and count(5) answer then. */
    static void saysSo(String what, GardenRules g, int r, int answer, int asked) {
        due(what + ", ask(" + r + ")", g.ask(r), answer);
        due(what + ", count(5)", g.count(5), asked);
    }
}
