/** DEEP and the 20000 ever, as promises 7, 9, 11 and 13 name them. */
public final class LimitsTest {
    private static final int DEEP = -15, FULL = GardenRules.FULL, UNKNOWN = GardenRules.UNKNOWN;

    public static void main(String[] args) {
        Due d = new Due();
        theThreeHundredthIsBegun(d);
        theMissingOneCounts(d);
        deepIsNotCaught(d);
        whatDeepDidStaysDone(d);
        rulesAndActsShareOneBound(d);
        longestChainsOfRules(d);
        longestChainsOfActs(d);
        longestChainOfBoth(d);
        longestChainOfLasts(d);
        fullWhenTwentyThousandWere(d);
        fullAtTwentyThousandAlready(d);
        waitingStaysWhenFull(d);
        d.end();
    }

    /** ACT 0 pours 1; ACT 3 begins 1 + 3 * 91 = 274, ACT 4 begins 21, ACT 5 both and itself: 296. */
    private static GardenRules withManyPours() {
        GardenRules g = new GardenRules();
        g.fill(0, 1000000);
        g.act(0, 0, 1, 0);
        g.act(4, 0, 9, 0);
        g.act(4, 1, 9, 0);
        g.act(4, 2, 3, 0);
        g.act(4, 1, 2, 0);
        g.act(3, 3, 4, 0);
        return g;
    }

    private static void theThreeHundredthIsBegun(Due d) {
        GardenRules g = withManyPours();
        d.due("run(5)", g.run(5), 1);
        d.due("count(5)", g.count(5), 296);
        g.act(4, 0, 2, 0);
        g.act(3, 5, 6, 0);
        d.due("run(7), 300 in all", g.run(7), 1);
        d.due("count(5)", g.count(5), 300);
        d.due("amount()", g.amount(), 263);
        g.act(4, 7, 1, 0);
        d.due("run(8), 301 in all", g.run(8), DEEP);
        d.due("count(5)", g.count(5), 300);
        d.due("amount()", g.amount(), 0);
        d.due("count(6)", g.count(6), 896);
    }

    private static void theMissingOneCounts(Due d) {
        GardenRules g = new GardenRules();
        g.act(7, 0, 0, 0);
        g.fill(0, 1000000);
        g.act(0, 0, 1, 0);
        g.act(4, 1, 9, 0);
        g.act(4, 2, 9, 0);
        g.act(4, 3, 3, 0);
        g.act(4, 2, 2, 0);
        g.act(3, 4, 5, 0);
        g.act(3, 6, 0, 0);
        d.due("run(7), 299 in all", g.run(7), -14);
        d.due("count(5)", g.count(5), 299);
        g.act(4, 7, 1, 0);
        d.due("run(8), 300 in all", g.run(8), -14);
        d.due("count(5)", g.count(5), 300);
        g.act(4, 8, 1, 0);
        d.due("run(9), the missing one is the 301st", g.run(9), DEEP);
        d.due("count(5)", g.count(5), 300);
    }

    private static void deepIsNotCaught(Due d) {
        GardenRules g = new GardenRules();
        deepRule(g);
        g.rule(0, 0, -1, 0);
        g.rule(9, 9, 10, 0);
        g.rule(8, 9, 1, 0);
        g.rule(5, 9, 0, 0);
        d.due("ask(9)", g.ask(9), DEEP);
        d.due("ELSE of DEEP", g.ask(11), DEEP);
        d.due("OFTEN of DEEP", g.ask(12), DEEP);
        d.due("NOT of DEEP", g.ask(13), DEEP);
        g.act(0, 0, 1, 0);
        g.act(2, 9, 0, 0);
        g.act(6, 1, 0, 0);
        d.due("TRY of DEEP", g.run(2), DEEP);
        d.due("tank(0)", g.tank(0), 100);
        d.due("count(6)", g.count(6), 5 * 300);
    }

    /** RULE 9 asks 2 ^ 10 - 1 RULES, if SENSOR 0 shows 0 or less. */
    private static void deepRule(GardenRules g) {
        g.rule(0, 0, 0, 0);
        for (int r = 0; r < 9; r++) {
            g.rule(7, r, r, 0);
        }
    }

    private static void whatDeepDidStaysDone(Due d) {
        GardenRules g = withManyPours();
        g.act(4, 3, 9, 0);
        g.act(6, 6, 0, 0);
        d.due("run(7)", g.run(7), DEEP);
        // TRY and TIMES are 2, a whole ACT 3 is 274 with 243 pours; the 24 that are left begin 5 TIMES and 19 pours.
        d.due("poured by DEEP", 1000000 - g.tank(0), 262);
    }

    private static void rulesAndActsShareOneBound(Due d) {
        GardenRules g = new GardenRules();
        g.rule(0, 0, 0, 0);
        for (int r = 0; r < 7; r++) {
            g.rule(7, r, r, 0);
        }
        d.due("ask(7)", g.ask(7), 0);
        d.due("count(5)", g.count(5), 255);
        g.act(0, 0, 1, 0);
        g.act(2, 7, -1, 0);
        g.act(4, 0, 9, 0);
        g.act(4, 2, 4, 0);
        g.act(3, 1, 3, 0);
        d.due("run(4)", g.run(4), 1);
        d.due("count(5), 1 + 257 + 41", g.count(5), 299);
        d.due("amount()", g.amount(), 37);
        g.act(3, 4, 0, 0);
        d.due("run(5)", g.run(5), DEEP);
        d.due("count(5)", g.count(5), 300);
    }

    /** 40 RULES, each but the first of the one before it; RULE 0 says no, or yes, or FAILS. */
    private static void longestChainsOfRules(Due d) {
        int no = 0, yes = 1, zero = -11;
        int[][] kindFirstByBSaysAsked = {{5, no, 0, yes, 40}, {6, yes, 0, yes, 79}, {6, yes, 1, yes, 79},
            {7, no, 0, no, 79}, {7, no, 1, no, 79}, {8, yes, 0, yes, 40}, {9, yes, 0, yes, 40}, {9, zero, 1, zero, 79}};
        for (int[] row : kindFirstByBSaysAsked) {
            GardenRules g = new GardenRules();
            g.rule(row[1] == zero ? 3 : 0, 0, row[1] == yes ? -1 : 0, 0);
            for (int r = 0; r < 39; r++) {
                int other = row[0] == 8 ? 1 : 0;
                g.rule(row[0], row[2] == 0 ? r : other, row[2] == 0 ? other : r, 0);
            }
            d.due("ask(39) of KIND " + row[0], g.ask(39), row[3]);
            d.due("count(5) of KIND " + row[0], g.count(5), row[4]);
        }
    }

    /** 40 ACTS, each but the first of the one before it; ACT 0 pours nothing, or is DRY. RULE 0 says no, 1 says yes. */
    private static void longestChainsOfActs(Due d) {
        int dry = -13;
        int[][] kindFirstOtherByBSaysBegun = {{2, 1, 1, 1, 1, 79}, {3, 1, 0, 0, 1, 79}, {3, 1, 0, 1, 1, 79},
            {4, 1, 1, 0, 1, 40}, {6, 1, 0, 0, 1, 40}, {6, dry, 0, 1, dry, 79}, {7, 1, 0, 0, 1, 40}};
        for (int[] row : kindFirstOtherByBSaysBegun) {
            GardenRules g = new GardenRules();
            g.rule(0, 0, 0, 0);
            g.rule(0, 0, -1, 0);
            g.act(0, 0, row[1] == dry ? 101 : 0, 0);
            for (int x = 0; x < 39; x++) {
                g.act(row[0], row[3] == 0 ? x : row[2], row[3] == 0 ? row[2] : x, -1);
            }
            d.due("run(39) of KIND " + row[0], g.run(39), row[4]);
            d.due("count(5) of KIND " + row[0], g.count(5), row[5]);
        }
    }

    private static void longestChainOfBoth(Due d) {
        GardenRules g = new GardenRules();
        g.rule(0, 0, -1, 0);
        for (int r = 0; r < 39; r++) {
            g.rule(9, r, r, 0);
        }
        g.act(2, 39, -1, -1);
        for (int x = 0; x < 39; x++) {
            g.act(6, x, x, 0);
        }
        d.due("run(39)", g.run(39), 1);
        d.due("count(5)", g.count(5), 80);
    }

    private static void longestChainOfLasts(Due d) {
        GardenRules g = new GardenRules();
        for (int x = 0; x < 40; x++) {
            g.act(7, 0, 0, 0);
        }
        d.due("run(39) of LASTS", g.run(39), -14);
        d.due("count(5) of LASTS", g.count(5), 41);
    }

    private static void fullWhenTwentyThousandWere(Due d) {
        GardenRules g = new GardenRules();
        deepRule(g);
        g.act(0, 0, 1, 0);
        g.act(0, 0, 2, 0);
        for (int i = 0; i < 66; i++) {
            g.ask(9);
        }
        d.due("count(6)", g.count(6), 19800);
        for (int i = 0; i < 199; i++) {
            g.ask(0);
        }
        d.due("count(6)", g.count(6), 19999);
        d.due("ask(9), beyond", g.ask(9), DEEP);
        d.due("count(6)", g.count(6), 20299);
        refusesAll(d, g, 300, 20299);
    }

    private static void fullAtTwentyThousandAlready(Due d) {
        GardenRules g = new GardenRules();
        deepRule(g);
        g.act(0, 0, 1, 0);
        g.act(5, 0, 1, 0);
        for (int i = 0; i < 66; i++) {
            g.ask(9);
        }
        g.run(1);
        for (int i = 0; i < 198; i++) {
            g.ask(0);
        }
        d.due("run(0), the 20000th", g.run(0), 1);
        refusesAll(d, g, 1, 20000);
        d.due("amount() stays", g.amount(), 1);
        d.due("tick(1)", g.tick(1), 0);
        d.due("count(2)", g.count(2), 1);
    }

    private static void refusesAll(Due d, GardenRules g, int latest, int ever) {
        int before = g.tank(0);
        d.due("ask(0)", g.ask(0), FULL);
        d.due("run(0)", g.run(0), FULL);
        d.due("ask(10)", g.ask(10), UNKNOWN);
        d.due("run(2)", g.run(2), UNKNOWN);
        d.due("tank(0)", g.tank(0), before);
        d.due("count(5)", g.count(5), latest);
        d.due("count(6)", g.count(6), ever);
        d.due("rules can still be told", g.rule(0, 0, 0, 0), 10);
        d.due("acts can still be told", g.act(0, 0, 0, 0), 2);
    }

    private static void waitingStaysWhenFull(Due d) {
        GardenRules g = new GardenRules();
        deepRule(g);
        g.act(2, 9, -1, -1);
        g.act(5, 0, 1, 0);
        for (int i = 0; i < 60; i++) {
            g.run(1);
        }
        d.due("tick(1)", g.tick(1), 60);
        d.due("count(6)", g.count(6), 60 + 60 * 300);
        for (int i = 0; i < 20; i++) {
            g.run(1);
        }
        d.due("tick(1), until there were 20000", g.tick(1), 7);
        d.due("count(6)", g.count(6), 18080 + 7 * 300);
        d.due("count(2)", g.count(2), 13);
        d.due("count(3)", g.count(3), 2);
        d.due("tick(50)", g.tick(50), 0);
        d.due("count(2)", g.count(2), 13);
        d.due("count(3)", g.count(3), 52);
        d.due("failed(0, 1)", g.failed(0, 1), 5);
        d.due("count(5), of run() alone", g.count(5), 1);
    }
}
