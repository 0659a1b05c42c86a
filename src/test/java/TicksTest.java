/** Promises 11 and 12: TICKS, what WAITS, and what FAILED in TICKS. */
public final class TicksTest {
    private static final int NONE = GardenRules.NONE, OUTSIDE = GardenRules.OUTSIDE;

    public static void main(String[] args) {
        Due d = new Due();
        ticksWithinBounds(d);
        eachWaitsForItsTime(d);
        inTheOrderInWhichTheyCame(d);
        thoseThatComeMeanwhileAreLast(d);
        timeAsItIsThen(d);
        noneOfThisTimeIsDoneAgain(d);
        sixtyWait(d);
        oneThatIsDoneLeavesItsRoom(d);
        aHundredInOneTick(d);
        failuresAreKept(d);
        thirtyFailuresAreKept(d);
        d.end();
    }

    private static void ticksWithinBounds(Due d) {
        GardenRules g = new GardenRules();
        for (int n : new int[] {0, -1, 51, Integer.MIN_VALUE, Integer.MAX_VALUE}) {
            d.due("tick(" + n + ")", g.tick(n), OUTSIDE);
        }
        d.due("count(3)", g.count(3), 0);
        d.due("tick(1)", g.tick(1), 0);
        d.due("tick(50)", g.tick(50), 0);
        d.due("count(3)", g.count(3), 51);
    }

    private static void eachWaitsForItsTime(Due d) {
        GardenRules g = new GardenRules();
        g.act(0, 0, 10, 0);
        g.act(5, 0, 1, 0);
        g.act(5, 0, 100, 0);
        g.act(5, 0, 3, 0);
        g.run(1);
        g.run(2);
        g.run(3);
        d.due("count(2)", g.count(2), 3);
        d.due("tick(2)", g.tick(2), 1);
        d.due("tank(0)", g.tank(0), 90);
        d.due("tick(1)", g.tick(1), 1);
        d.due("tick(50)", g.tick(50), 0);
        d.due("tick(46)", g.tick(46), 0);
        d.due("tank(0)", g.tank(0), 80);
        d.due("tick(1), the 100th", g.tick(1), 1);
        d.due("tank(0)", g.tank(0), 70);
        d.due("count(2)", g.count(2), 0);
    }

    /** SENSOR 0 shows 1, 2 or 3, whichever of the three ACTS was done last. */
    private static GardenRules withThreeShows() {
        GardenRules g = new GardenRules();
        for (int t = 1; t <= 3; t++) {
            g.fill(t, t);
            g.act(8, 0, t, 0);
        }
        return g;
    }

    private static void inTheOrderInWhichTheyCame(Due d) {
        GardenRules g = withThreeShows();
        g.act(5, 0, 3, 0);
        g.act(5, 1, 2, 0);
        g.act(5, 2, 1, 0);
        g.run(3);
        g.tick(1);
        g.run(4);
        g.tick(1);
        g.run(5);
        d.due("tick(1), three for one time", g.tick(1), 3);
        d.due("shown(0), the third came last", g.shown(0), 3);
        g.run(5);
        g.tick(1);
        g.run(4);
        g.run(3);
        g.tick(1);
        g.run(5);
        d.due("tick(1), two for one time", g.tick(1), 2);
        d.due("shown(0), the third came last again", g.shown(0), 3);
        d.due("tick(1), the first is left", g.tick(1), 1);
        d.due("shown(0)", g.shown(0), 1);
    }

    private static void thoseThatComeMeanwhileAreLast(Due d) {
        GardenRules g = withThreeShows();
        g.act(5, 2, 0, 0);
        g.act(5, 3, 1, 0);
        g.act(5, 0, 1, 0);
        g.run(4);
        g.run(5);
        d.due("tick(1), and one that came meanwhile", g.tick(1), 3);
        d.due("shown(0), that one was last", g.shown(0), 3);
    }

    private static void timeAsItIsThen(Due d) {
        GardenRules g = new GardenRules();
        g.act(0, 0, 1, 0);
        g.act(5, 0, 2, 0);
        g.act(5, 1, 3, 0);
        g.tick(7);
        g.run(2);
        d.due("tick(2)", g.tick(2), 0);
        d.due("tick(1)", g.tick(1), 1);
        d.due("tick(1)", g.tick(1), 0);
        d.due("tank(0)", g.tank(0), 100);
        d.due("tick(1)", g.tick(1), 1);
        d.due("tank(0)", g.tank(0), 99);
    }

    private static void noneOfThisTimeIsDoneAgain(Due d) {
        GardenRules g = new GardenRules();
        g.act(0, 0, 1, 0);
        g.act(5, 0, 0, 0);
        g.run(1);
        d.due("tick(50)", g.tick(50), 0);
        d.due("count(2)", g.count(2), 1);
        g.act(5, 1, 1, 0);
        g.run(2);
        d.due("tick(1), and the one that it lets WAIT", g.tick(1), 2);
        d.due("tank(0)", g.tank(0), 99);
        d.due("count(2)", g.count(2), 1);
    }

    private static GardenRules withNineTimesNine(int later) {
        GardenRules g = new GardenRules();
        g.fill(0, 1000000);
        g.act(0, 0, 1, 0);
        g.act(5, 0, later, 0);
        g.act(4, 1, 9, 0);
        g.act(4, 2, 9, 0);
        return g;
    }

    private static void sixtyWait(Due d) {
        GardenRules g = withNineTimesNine(1);
        for (int i = 0; i < 6; i++) {
            g.run(2);
        }
        d.due("count(2)", g.count(2), 54);
        for (int i = 55; i < 63; i++) {
            d.due("run(1)", g.run(1), 1);
            d.due("count(2)", g.count(2), Math.min(i, 60));
        }
        d.due("run(3), all lost", g.run(3), 1);
        d.due("count(2)", g.count(2), 60);
        d.due("tick(1)", g.tick(1), 60);
        d.due("tank(0)", g.tank(0), 1000000 - 60);
    }

    private static void oneThatIsDoneLeavesItsRoom(Due d) {
        GardenRules g = new GardenRules();
        g.act(0, 0, 1, 0);
        g.act(5, 0, 100, 0);
        g.act(5, 1, 1, 0);
        g.act(3, 1, 1, 0);
        g.act(5, 3, 1, 0);
        g.run(4);
        for (int i = 0; i < 59; i++) {
            g.run(1);
        }
        d.due("count(2)", g.count(2), 60);
        d.due("tick(1)", g.tick(1), 1);
        d.due("count(2), one of two had room", g.count(2), 60);
        d.due("tick(50)", g.tick(50), 0);
        d.due("tick(49)", g.tick(49), 59);
        d.due("tick(1)", g.tick(1), 1);
    }

    /** Each of 60 that WAIT lets two more WAIT for the same time, so there are more than are done in a TICK. */
    private static void aHundredInOneTick(Due d) {
        GardenRules g = new GardenRules();
        g.fill(0, 1000000);
        g.act(0, 0, 1, 0);
        g.act(5, 0, 0, 0);
        g.act(3, 1, 1, 0);
        g.act(5, 2, 1, 0);
        for (int i = 0; i < 60; i++) {
            g.run(3);
        }
        d.due("tick(1)", g.tick(1), 100);
        d.due("tank(0)", g.tank(0), 1000000 - 40);
        // The first to be done leaves room for one of its two, and so on; then 40 are done without more to come.
        d.due("count(2)", g.count(2), 20);
        d.due("tick(50)", g.tick(50), 0);
        d.due("count(2), the others stay", g.count(2), 20);
        g.run(3);
        d.due("tick(1), a new TICK has a new hundred", g.tick(1), 3);
    }

    private static void failuresAreKept(Due d) {
        GardenRules g = new GardenRules();
        g.rule(3, 0, 0, 0);
        g.rule(4, 1, 0, 0);
        g.show(1, -1);
        g.act(7, 0, 0, 0);
        g.act(2, 0, NONE, NONE);
        g.act(2, 1, NONE, NONE);
        g.act(0, 0, 101, 0);
        g.act(3, 3, 3, 0);
        g.act(0, 0, 1, 0);
        for (int x = 0; x < 6; x++) {
            g.act(5, x, 6 - x, 0);
        }
        for (int x = 6; x < 12; x++) {
            g.run(x);
        }
        d.due("tick(6)", g.tick(6), 6);
        int[][] want = {{4, 3, 2}, {3, 3, 3}, {2, 2, 4}, {1, 1, 5}, {0, 4, 6}};
        for (int i = 0; i < want.length; i++) {
            for (int what = 0; what < 3; what++) {
                d.due("failed(" + i + ", " + what + ")", g.failed(i, what), want[i][what]);
            }
        }
        d.due("count(4)", g.count(4), 5);
        d.due("failed(0, 3)", g.failed(0, 3), OUTSIDE);
        d.due("failed(0, -1)", g.failed(0, -1), OUTSIDE);
        d.due("failed(99, 3)", g.failed(99, 3), OUTSIDE);
        for (int i : new int[] {-1, 5, 30, Integer.MIN_VALUE, Integer.MAX_VALUE}) {
            d.due("failed(" + i + ", 0)", g.failed(i, 0), NONE);
            d.due("failed(" + i + ", 1)", g.failed(i, 1), NONE);
            d.due("failed(" + i + ", 2)", g.failed(i, 2), NONE);
        }
        g.run(3);
        g.ask(0);
        d.due("count(4), run() and ask() keep none", g.count(4), 5);
    }

    private static void thirtyFailuresAreKept(Due d) {
        GardenRules g = withNineTimesNine(1);
        g.fill(0, 0);
        g.run(2);
        g.tick(1);
        d.due("count(4)", g.count(4), 9);
        for (int i = 0; i < 3; i++) {
            g.run(2);
            d.due("tick(1)", g.tick(1), 9);
        }
        d.due("count(4)", g.count(4), 30);
        d.due("failed(29, 2)", g.failed(29, 2), 4);
        d.due("failed(26, 2)", g.failed(26, 2), 3);
        d.due("failed(30, 0)", g.failed(30, 0), NONE);
        g.act(7, 0, 0, 0);
        d.due("failed(0, 0)", g.failed(0, 0), 0);
    }
}
