/** Promises 9 and 10: what ACTS of each KIND do, how they FAIL, and the amounts that they come to. */
public final class ActRunningTest {
    private static final int ZERO = -11, DRY = -13, MISSING = -14, NONE = GardenRules.NONE;

    public static void main(String[] args) {
        Due d = new Due();
        unknownActs(d);
        pour(d);
        move(d);
        when(d);
        then(d);
        times(d);
        later(d);
        tries(d);
        triesWithinTries(d);
        triesKeepAllButTanks(d);
        last(d);
        lastTakesNoRefusedAct(d);
        shows(d);
        amountsWrap(d);
        d.end();
    }

    private static void comesTo(Due d, GardenRules g, int x, int answer, int amount, int begun) {
        d.due("run(" + x + ")", g.run(x), answer);
        d.due("amount() of " + x, g.amount(), amount);
        d.due("count(5) of " + x, g.count(5), begun);
    }

    private static void tanks(Due d, GardenRules g, int... want) {
        for (int t = 0; t < want.length; t++) {
            d.due("tank(" + t + ")", g.tank(t), want[t]);
        }
    }

    private static void unknownActs(Due d) {
        GardenRules g = new GardenRules();
        g.act(0, 0, 7, 0);
        comesTo(d, g, 0, 1, 7, 1);
        for (int x : new int[] {-1, 1, 40, Integer.MIN_VALUE, Integer.MAX_VALUE}) {
            comesTo(d, g, x, GardenRules.UNKNOWN, 7, 1);
        }
        d.due("count(6)", g.count(6), 1);
    }

    private static void pour(Due d) {
        GardenRules g = new GardenRules();
        g.act(0, 5, 60, 0);
        g.act(0, 5, 40, 0);
        g.act(0, 5, 0, 0);
        comesTo(d, g, 0, 1, 60, 1);
        comesTo(d, g, 0, DRY, 0, 1);
        d.due("tank(5), when DRY", g.tank(5), 40);
        comesTo(d, g, 1, 1, 40, 1);
        comesTo(d, g, 2, 1, 0, 1);
        comesTo(d, g, 1, DRY, 0, 1);
        tanks(d, g, 100, 100, 100, 100, 100, 0);
    }

    private static void move(Due d) {
        GardenRules g = new GardenRules();
        g.act(1, 0, 5, 60);
        g.act(1, 1, 1, 100);
        g.act(1, 1, 1, 101);
        comesTo(d, g, 0, 1, 60, 1);
        tanks(d, g, 40, 100, 100, 100, 100, 160);
        comesTo(d, g, 0, DRY, 0, 1);
        comesTo(d, g, 1, 1, 100, 1);
        comesTo(d, g, 2, DRY, 0, 1);
        tanks(d, g, 40, 100, 100, 100, 100, 160);
        g.fill(5, 1000000);
        g.fill(0, 60);
        comesTo(d, g, 0, 1, 60, 1);
        d.due("tank(5), beyond what can be filled", g.tank(5), 1000060);
    }

    private static void when(Due d) {
        GardenRules g = new GardenRules();
        g.rule(0, 0, 0, 0);
        g.rule(3, 0, 1, 1);
        g.act(0, 0, 1, 0);
        g.act(0, 1, 2, 0);
        g.act(2, 0, 0, 1);
        g.act(2, 0, NONE, 1);
        g.act(2, 0, 0, NONE);
        g.act(2, 1, 0, 1);
        comesTo(d, g, 2, 1, 2, 3);
        comesTo(d, g, 3, 1, 2, 3);
        comesTo(d, g, 4, 1, 0, 2);
        g.show(0, 1);
        comesTo(d, g, 2, 1, 1, 3);
        comesTo(d, g, 3, 1, 0, 2);
        comesTo(d, g, 4, 1, 1, 3);
        tanks(d, g, 98, 96);
        comesTo(d, g, 5, ZERO, 0, 2);
        tanks(d, g, 98, 96);
    }

    private static void then(Due d) {
        GardenRules g = new GardenRules();
        g.act(0, 0, 30, 0);
        g.act(0, 1, 60, 0);
        g.act(3, 0, 1, 0);
        g.act(3, 1, 0, 0);
        comesTo(d, g, 2, 1, 90, 3);
        comesTo(d, g, 2, DRY, 0, 3);
        tanks(d, g, 40, 40);
        comesTo(d, g, 3, DRY, 0, 2);
        tanks(d, g, 40, 40);
    }

    private static void times(Due d) {
        GardenRules g = new GardenRules();
        g.act(0, 0, 10, 0);
        g.act(4, 0, 9, 0);
        g.act(4, 0, 0, 0);
        comesTo(d, g, 1, 1, 90, 10);
        comesTo(d, g, 2, 1, 0, 1);
        g.fill(0, 35);
        comesTo(d, g, 1, DRY, 0, 5);
        tanks(d, g, 5);
    }

    private static void later(Due d) {
        GardenRules g = new GardenRules();
        g.act(0, 0, 10, 0);
        g.act(5, 0, 1, 0);
        comesTo(d, g, 0, 1, 10, 1);
        comesTo(d, g, 1, 1, 0, 1);
        d.due("count(2)", g.count(2), 1);
        tanks(d, g, 90);
        comesTo(d, g, 0, 1, 10, 1);
        g.tick(1);
        d.due("amount() after a TICK", g.amount(), 10);
        tanks(d, g, 70);
    }

    private static void tries(Due d) {
        GardenRules g = new GardenRules();
        g.act(1, 0, 1, 60);
        g.act(3, 0, 0, 0);
        g.act(0, 2, 5, 0);
        g.act(6, 1, 2, 0);
        g.act(6, 2, 0, 0);
        comesTo(d, g, 3, 1, 5, 5);
        tanks(d, g, 100, 100, 95);
        comesTo(d, g, 4, 1, 5, 2);
        tanks(d, g, 100, 100, 90);
        g.fill(2, 3);
        comesTo(d, g, 3, DRY, 0, 5);
        tanks(d, g, 100, 100, 3);
        g.act(6, 1, 1, 0);
        comesTo(d, g, 5, DRY, 0, 7);
        tanks(d, g, 40, 160, 3);
    }

    private static void triesWithinTries(Due d) {
        GardenRules g = new GardenRules();
        g.act(0, 0, 60, 0);
        g.act(0, 1, 1, 0);
        g.act(3, 0, 0, 0);
        g.act(6, 2, 1, 0);
        g.act(3, 3, 2, 0);
        g.act(0, 2, 7, 0);
        g.act(6, 4, 5, 0);
        g.act(3, 5, 6, 0);
        comesTo(d, g, 3, 1, 1, 5);
        tanks(d, g, 100, 99, 100);
        comesTo(d, g, 6, 1, 7, 11);
        tanks(d, g, 100, 99, 93);
        comesTo(d, g, 7, 1, 14, 13);
        tanks(d, g, 100, 99, 79);
    }

    private static void triesKeepAllButTanks(Due d) {
        GardenRules g = new GardenRules();
        g.rule(0, 0, -1, 0);
        g.rule(8, 0, 2, 0);
        g.act(8, 3, 0, 0);
        g.act(5, 0, 4, 0);
        g.act(2, 1, NONE, NONE);
        g.act(3, 0, 1, 0);
        g.act(3, 3, 2, 0);
        g.act(0, 1, 101, 0);
        g.act(3, 4, 5, 0);
        g.act(4, 5, 0, 0);
        g.act(6, 6, 7, 0);
        comesTo(d, g, 8, 1, 0, 11);
        d.due("shown(3) stays", g.shown(3), 100);
        d.due("count(2) stays", g.count(2), 1);
        d.due("what OFTEN counted stays", g.ask(1), 1);
    }

    private static void last(Due d) {
        GardenRules g = new GardenRules();
        g.act(7, 0, 0, 0);
        comesTo(d, g, 0, MISSING, 0, 2);
        g.act(0, 0, 60, 0);
        comesTo(d, g, 0, MISSING, 0, 2);
        g.act(7, 0, 0, 0);
        g.act(0, 1, 5, 0);
        g.act(6, 0, 3, 0);
        comesTo(d, g, 2, 1, 60, 2);
        comesTo(d, g, 2, DRY, 0, 2);
        tanks(d, g, 40, 100);
        comesTo(d, g, 4, 1, 5, 4);
    }

    private static void lastTakesNoRefusedAct(Due d) {
        GardenRules g = new GardenRules();
        g.act(0, 0, 1, 0);
        g.act(0, 9, 1, 0);
        g.act(0, 0, 2, 0);
        g.act(9, 0, 0, 0);
        g.act(7, 0, 0, 0);
        g.act(7, 1, 0, 0);
        comesTo(d, g, 2, 1, 2, 2);
        comesTo(d, g, 3, 1, 2, 3);
    }

    private static void shows(Due d) {
        GardenRules g = new GardenRules();
        g.act(8, 7, 5, 0);
        g.fill(5, 1000000);
        comesTo(d, g, 0, 1, 1000000, 1);
        d.due("shown(7)", g.shown(7), 1000000);
        d.due("tank(5)", g.tank(5), 1000000);
        g.shown(9);
        comesTo(d, g, 0, 1, 1000000, 1);
        d.due("why() is of shown(), not of SHOW", g.why(), GardenRules.UNKNOWN);
    }

    /** A TANK is moved full far beyond what fill() may give it, so that SHOWING it 162 times is more than an int. */
    private static void amountsWrap(Due d) {
        GardenRules g = new GardenRules();
        g.act(1, 0, 1, 1000);
        g.act(4, 0, 9, 0);
        g.act(4, 1, 9, 0);
        g.act(4, 2, 3, 0);
        g.fill(1, 0);
        long moved = 0;
        for (int i = 0; i < 60; i++) {
            g.fill(0, 1000000);
            g.run(3);
            moved += 243000;
        }
        d.due("tank(1)", g.tank(1), moved);
        g.act(8, 0, 1, 0);
        g.act(4, 4, 9, 0);
        g.act(4, 5, 9, 0);
        g.act(4, 6, 2, 0);
        d.due("run(7)", g.run(7), 1);
        d.due("amount() that wraps", g.amount(), (int) (moved * 162));
        d.due("count(5)", g.count(5), 1 + 2 * (1 + 9 * 10));
    }
}
