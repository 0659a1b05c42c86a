/** "20000 may be asked and begun ever, parts too ..: when as many were, ask(), run() are FULL" */
public final class EdgesOfEverTest extends Told {
    private static final int EVER = 20000;

    public static void main(String[] args) {
        the20000thIsAskedAndNoMore();
        the20000thIsBegunAndNoMore();
        anAskGoesBeyond();
        aRunGoesBeyond();
        oneThatWaitedGoesBeyond();
        oneThatWaitedIsThe20000th();
        noneThatWaitsIsDoneOnceFull();
        fullInTheMidstOfTicks();
        timeGrowsThoughFull();
        unknownAheadOfFull();
        otherCallsAreNotFull();
        deepOnesAreNone();
        refusedOnesAreNone();
        DUE.end();
    }

    /** Asks until so many were asked and begun ever; needs withRules(). */
    private static void askUntil(GardenRules g, int ever) {
        spend(g, ever - g.count(6));
        due("count(6)", g.count(6), ever);
    }

    private static GardenRules withRules() {
        GardenRules g = new GardenRules();
        doublingRules(g);
        return g;
    }

    private static void the20000thIsAskedAndNoMore() {
        GardenRules g = withRules();
        askUntil(g, EVER - 1);
        saysSo("the 20000th", g, 0, 0, 1);
        due("count(6)", g.count(6), EVER);
        for (int r = 0; r <= 7; r++) {
            due("ask(" + r + ")", g.ask(r), FULL);
        }
        due("count(6) after them", g.count(6), EVER);
        due("count(5) after them", g.count(5), 1);
    }

    private static void the20000thIsBegunAndNoMore() {
        GardenRules g = withRules();
        int pour = pour(g, 0, 7);
        askUntil(g, EVER - 1);
        comesTo("the 20000th", g, pour, 1, 7, 1);
        comesTo("the 20001st", g, pour, FULL, 7, 1);
        due("ask(0)", g.ask(0), FULL);
        tanks("then", g, 93);
        due("count(6)", g.count(6), EVER);
    }

    /** "(.. one ask(), run(), ACT that WAITED may go beyond)" */
    private static void anAskGoesBeyond() {
        GardenRules g = withRules();
        int yes300 = not(g, either(g, no295(g), 1)), deep = not(g, yes300);
        askUntil(g, EVER - 1);
        saysSo("300 beyond", g, yes300, 1, 300);
        due("count(6)", g.count(6), EVER + 299);
        due("ask(0)", g.ask(0), FULL);
        GardenRules h = withRules();
        not(h, not(h, either(h, no295(h), 1)));
        askUntil(h, EVER - 1);
        saysSo("DEEP beyond", h, deep, DEEP, 300);
        due("count(6)", h.count(6), EVER + 299);
        due("ask(0)", h.ask(0), FULL);
    }

    private static void aRunGoesBeyond() {
        GardenRules g = withRules();
        int nine = times(g, pour(g, 0, 1), 9);
        askUntil(g, EVER - 1);
        comesTo("10 beyond", g, nine, 1, 9, 10);
        tanks("then", g, 91);
        due("count(6)", g.count(6), EVER + 9);
        comesTo("no more", g, nine, FULL, 9, 10);
        tanks("then", g, 91);
    }

    private static void oneThatWaitedGoesBeyond() {
        GardenRules g = withRules();
        int nine = times(g, pour(g, 0, 1), 9);
        g.run(later(g, nine, 1));
        askUntil(g, EVER - 1);
        due("tick(1), 10 beyond", g.tick(1), 1);
        tanks("then", g, 91);
        due("count(6)", g.count(6), EVER + 9);
        due("count(2)", g.count(2), 0);
        due("count(4)", g.count(4), 0);
        due("ask(0)", g.ask(0), FULL);
    }

    private static void oneThatWaitedIsThe20000th() {
        GardenRules g = withRules();
        int later = later(g, pour(g, 0, 1), 1);
        runTimes(g, later, 3);
        askUntil(g, EVER - 2);
        due("tick(1), the 19999th and the 20000th", g.tick(1), 2);
        due("count(6)", g.count(6), EVER);
        due("count(2), the third stays", g.count(2), 1);
        tanks("then", g, 98);
        due("run(0)", g.run(0), FULL);
    }

    /** "and ACTS that WAIT are done no more (they stay)" */
    private static void noneThatWaitsIsDoneOnceFull() {
        GardenRules g = withRules();
        runTimes(g, later(g, dry(g), 1), 2);
        askUntil(g, EVER);
        due("tick(1)", g.tick(1), 0);
        due("count(2), they stay", g.count(2), 2);
        due("count(4), none FAILED", g.count(4), 0);
        due("count(6)", g.count(6), EVER);
        due("tick(50)", g.tick(50), 0);
        due("count(2), they stay for ever", g.count(2), 2);
    }

    /** The first of three TICKS makes it full; those for the others stay, and so do those that came meanwhile. */
    private static void fullInTheMidstOfTicks() {
        GardenRules g = withRules();
        int pour = pour(g, 0, 1), now = later(g, pour, 0);
        g.run(later(g, now, 1));
        g.run(later(g, pour, 1));
        g.run(later(g, pour, 2));
        g.run(later(g, pour, 3));
        askUntil(g, EVER - 2);
        due("tick(3), two of five", g.tick(3), 2);
        due("count(2), the one that came and two more", g.count(2), 3);
        due("count(3)", g.count(3), 3);
        tanks("then", g, 99);
    }

    private static void timeGrowsThoughFull() {
        GardenRules g = withRules();
        askUntil(g, EVER);
        due("tick(50)", g.tick(50), 0);
        due("count(3)", g.count(3), 50);
        due("tick(51)", g.tick(51), OUTSIDE);
        due("count(3)", g.count(3), 50);
    }

    /** "UNKNOWN; FULL." */
    private static void unknownAheadOfFull() {
        GardenRules g = withRules();
        pour(g, 0, 1);
        askUntil(g, EVER);
        for (int n : new int[] {-1, 8, 39, 40, LEAST, GREATEST}) {
            due("ask(" + n + ")", g.ask(n), UNKNOWN);
            due("run(" + n + ")", g.run(n), UNKNOWN);
        }
        due("ask(7)", g.ask(7), FULL);
        due("run(0)", g.run(0), FULL);
    }

    private static void otherCallsAreNotFull() {
        GardenRules g = withRules();
        askUntil(g, EVER);
        due("rule()", above(g, 0, 0), 8);
        due("act()", pour(g, 0, 0), 0);
        due("show()", g.show(0, 5), 0);
        due("shown()", g.shown(0), 5);
        due("fill()", g.fill(0, 5), 100);
        due("tank()", g.tank(0), 5);
        due("tick()", g.tick(1), 0);
        due("failed()", g.failed(0, 0), NONE);
        due("amount()", g.amount(), 0);
        due("why()", g.why(), 0);
    }

    /** "(DEEP ones are none ..)": 66 DEEP asks are 19800, not one more each; so 200 may still be asked. */
    private static void deepOnesAreNone() {
        GardenRules g = withRules();
        int deep = either(g, 7, 7);
        for (int i = 1; i <= 66; i++) {
            due("DEEP " + i, g.ask(deep), DEEP);
        }
        due("count(6)", g.count(6), 19800);
        askUntil(g, EVER - 1);
        due("ask(0), the 20000th", g.ask(0), 0);
        due("ask(0), no more", g.ask(0), FULL);
    }

    private static void refusedOnesAreNone() {
        GardenRules g = withRules();
        pour(g, 0, 1);
        askUntil(g, EVER - 1);
        for (int i = 0; i < 5; i++) {
            due("ask(8)", g.ask(8), UNKNOWN);
            due("run(1)", g.run(1), UNKNOWN);
        }
        due("count(6)", g.count(6), EVER - 1);
        due("run(0), the 20000th", g.run(0), 1);
    }
}
