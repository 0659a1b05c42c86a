/** The edges that promise 13 names: what can be counted, and when each count changes. */
public final class EdgesOfCountsTest extends Told {
    public static void main(String[] args) {
        countedAre0To6();
        allAre0AtFirst();
        rulesAndActsUpTo40();
        thoseThatWaitUpTo60();
        timeByEachTick();
        thoseThatFailedUpTo30();
        latestIsNotOfRefusedOnes();
        latestIsNotOfTicks();
        latestIsOfOnesThatFailed();
        everIsOfTicksToo();
        DUE.end();
    }

    private static void countedAre0To6() {
        GardenRules g = new GardenRules();
        for (int what : new int[] {-1, 7, LEAST, GREATEST}) {
            due("count(" + what + ")", g.count(what), OUTSIDE);
        }
    }

    private static void allAre0AtFirst() {
        GardenRules g = new GardenRules();
        for (int what = 0; what <= 6; what++) {
            due("count(" + what + ") at first", g.count(what), 0);
        }
    }

    private static void rulesAndActsUpTo40() {
        GardenRules g = new GardenRules();
        for (int i = 1; i <= 42; i++) {
            yes(g);
            due("count(0) of " + i, g.count(0), Math.min(i, 40));
            due("count(1) ahead of " + i, g.count(1), Math.min(i - 1, 40));
            pour(g, 0, 0);
            due("count(1) of " + i, g.count(1), Math.min(i, 40));
        }
    }

    private static void thoseThatWaitUpTo60() {
        GardenRules g = new GardenRules();
        int nine = times(g, later(g, pour(g, 0, 0), 1), 9);
        for (int i = 1; i <= 7; i++) {
            g.run(nine);
            due("count(2) of " + 9 * i, g.count(2), Math.min(9 * i, 60));
        }
        g.tick(1);
        due("count(2), all are done", g.count(2), 0);
    }

    private static void timeByEachTick() {
        GardenRules g = new GardenRules();
        g.tick(1);
        due("count(3)", g.count(3), 1);
        g.tick(2);
        due("count(3)", g.count(3), 3);
        g.tick(0);
        g.tick(51);
        due("count(3), none by refused ones", g.count(3), 3);
    }

    private static void thoseThatFailedUpTo30() {
        GardenRules g = new GardenRules();
        int eight = times(g, later(g, dry(g), 1), 8);
        for (int i = 1; i <= 5; i++) {
            g.run(eight);
            g.tick(1);
            due("count(4) of " + 8 * i, g.count(4), Math.min(8 * i, 30));
        }
    }

    /** "in the latest ask(), run() that was not refused" */
    private static void latestIsNotOfRefusedOnes() {
        GardenRules g = new GardenRules();
        not(g, yes(g));
        times(g, pour(g, 0, 0), 9);
        g.ask(1);
        g.ask(2);
        g.run(-1);
        due("count(5) of ask(1)", g.count(5), 2);
        g.run(1);
        g.ask(-1);
        g.run(2);
        due("count(5) of run(1)", g.count(5), 10);
    }

    private static void latestIsNotOfTicks() {
        GardenRules g = new GardenRules();
        g.run(later(g, times(g, pour(g, 0, 0), 9), 1));
        due("tick(1)", g.tick(1), 1);
        due("count(5) of run()", g.count(5), 1);
    }

    private static void latestIsOfOnesThatFailed() {
        GardenRules g = new GardenRules();
        not(g, not(g, zero(g)));
        times(g, dry(g), 9);
        saysSo("NOT, NOT of ZERO", g, 2, ZERO, 3);
        comesTo("TIMES of DRY", g, 1, DRY, 0, 2);
    }

    /** "6 ever (in TICKS, too)" */
    private static void everIsOfTicksToo() {
        GardenRules g = new GardenRules();
        int when = when(g, not(g, yes(g)), NONE, NONE);
        g.ask(1);
        due("count(6) after ask()", g.count(6), 2);
        g.run(when);
        due("count(6) after run()", g.count(6), 5);
        g.run(later(g, when, 1));
        g.run(later(g, dry(g), 1));
        due("count(6) after LATER twice", g.count(6), 7);
        g.tick(1);
        due("count(6) after those that WAITED", g.count(6), 11);
        g.tick(1);
        due("count(6) after a TICK of none", g.count(6), 11);
    }
}
