/** Promise 7: what RULES of each KIND say, and how they FAIL. */
public final class RuleAskingTest {
    private static final int ZERO = -11, INDEX = -12;
    private static final int LEAST = Integer.MIN_VALUE, GREATEST = Integer.MAX_VALUE;

    public static void main(String[] args) {
        Due d = new Due();
        unknownRules(d);
        above(d);
        near(d);
        other(d);
        share(d);
        pointed(d);
        partsAreAskedOnlyAsNeeded(d);
        often(d);
        oftenThatFails(d);
        elses(d);
        d.end();
    }

    private static void unknownRules(Due d) {
        GardenRules g = new GardenRules();
        g.rule(0, 0, -1, 0);
        d.due("ask(0)", g.ask(0), 1);
        for (int r : new int[] {-1, 1, 40, LEAST, GREATEST}) {
            d.due("ask(" + r + ")", g.ask(r), GardenRules.UNKNOWN);
        }
        d.due("count(5)", g.count(5), 1);
        d.due("count(6)", g.count(6), 1);
    }

    private static void above(Due d) {
        GardenRules g = new GardenRules();
        g.rule(0, 7, 5, 0);
        g.rule(0, 7, GREATEST, 0);
        int[][] shownAndSaid = {{5, 0}, {6, 1}, {4, 0}, {LEAST, 0}, {GREATEST, 1}};
        for (int[] row : shownAndSaid) {
            g.show(7, row[0]);
            d.due("ABOVE 5 at " + row[0], g.ask(0), row[1]);
            d.due("ABOVE the greatest", g.ask(1), 0);
        }
    }

    private static void near(Due d) {
        GardenRules g = new GardenRules();
        g.rule(1, 2, 10, 3);
        g.rule(1, 2, LEAST, GREATEST);
        g.rule(1, 2, 10, 0);
        int[][] rows = {{7, 1, 0, 0}, {6, 0, 0, 0}, {13, 1, 0, 0}, {14, 0, 0, 0}, {10, 1, 0, 1},
            {-1, 0, 1, 0}, {0, 0, 0, 0}, {GREATEST, 0, 0, 0}, {LEAST, 0, 1, 0}};
        for (int[] row : rows) {
            g.show(2, row[0]);
            for (int r = 0; r < 3; r++) {
                d.due("NEAR " + r + " at " + row[0], g.ask(r), row[1 + r]);
            }
        }
    }

    private static void other(Due d) {
        GardenRules g = new GardenRules();
        g.show(1, 4);
        g.rule(2, 1, 0, 0);
        g.show(1, 5);
        g.rule(2, 1, 0, 0);
        d.due("OTHER than 4 at 5", g.ask(0), 1);
        d.due("OTHER than 5 at 5", g.ask(1), 0);
        g.show(1, 4);
        d.due("OTHER than 4 at 4", g.ask(0), 0);
        d.due("OTHER than 5 at 4", g.ask(1), 1);
    }

    private static void share(Due d) {
        int[][] rows = {{7, 2, 3, 1}, {7, 2, 4, 0}, {-7, 2, -3, 1}, {-7, 2, -2, 0}, {1, -2, 0, 1}, {-1, 2, 0, 1},
            {5, 0, 0, ZERO}, {0, 0, LEAST, ZERO}, {0, 5, 0, 1}, {0, 5, 1, 0},
            {LEAST, 1, LEAST, 1}, {LEAST, -1, 0, 1}, {LEAST, -1, GREATEST, 1}, {GREATEST, -1, -GREATEST, 1}};
        for (int[] row : rows) {
            GardenRules g = new GardenRules();
            g.show(0, row[0]);
            g.show(6, row[1]);
            g.rule(3, 0, 6, row[2]);
            d.due("SHARE " + row[0] + " by " + row[1] + " at least " + row[2], g.ask(0), row[3]);
        }
    }

    private static void pointed(Due d) {
        GardenRules g = new GardenRules();
        g.rule(4, 3, 5, 0);
        g.show(7, 6);
        g.show(6, 5);
        int[][] rows = {{7, 1}, {6, 0}, {0, 0}, {8, INDEX}, {-1, INDEX}, {LEAST, INDEX}, {GREATEST, INDEX}, {3, 0}};
        for (int[] row : rows) {
            g.show(3, row[0]);
            d.due("POINTED at " + row[0], g.ask(0), row[1]);
        }
    }

    /** RULES 0 no, 1 yes, 2 FAILS; then each pair of them by NOT, BOTH, EITHER. */
    private static void partsAreAskedOnlyAsNeeded(Due d) {
        int[] alone = {0, 1, ZERO};
        for (int a = 0; a < 3; a++) {
            for (int b = 0; b < 3; b++) {
                GardenRules g = noYesAndFailing();
                g.rule(5, a, 0, 0);
                g.rule(6, a, b, 0);
                g.rule(7, a, b, 0);
                d.due("NOT " + a, g.ask(3), a == 2 ? ZERO : 1 - alone[a]);
                d.due("NOT " + a + " asks", g.count(5), 2);
                d.due("BOTH " + a + ", " + b, g.ask(4), a == 1 ? alone[b] : alone[a]);
                d.due("BOTH " + a + ", " + b + " asks", g.count(5), a == 1 ? 3 : 2);
                d.due("EITHER " + a + ", " + b, g.ask(5), a == 0 ? alone[b] : alone[a]);
                d.due("EITHER " + a + ", " + b + " asks", g.count(5), a == 0 ? 3 : 2);
            }
        }
    }

    private static GardenRules noYesAndFailing() {
        GardenRules g = new GardenRules();
        g.rule(0, 0, 0, 0);
        g.rule(0, 0, -1, 0);
        g.rule(3, 0, 0, 0);
        return g;
    }

    private static void often(Due d) {
        GardenRules g = new GardenRules();
        g.rule(0, 0, 0, 0);
        g.rule(8, 0, 2, 0);
        g.rule(8, 0, 1, 0);
        g.show(0, 1);
        g.ask(0);
        g.ask(0);
        d.due("OFTEN counts only what it asked itself", g.ask(1), 0);
        g.show(0, 0);
        d.due("OFTEN at no", g.ask(1), 0);
        g.show(0, 1);
        d.due("OFTEN, this time too", g.ask(1), 1);
        g.show(0, 0);
        d.due("OFTEN at no, when it has been often", g.ask(1), 1);
        d.due("another OFTEN counts on its own", g.ask(2), 0);
        g.show(0, 1);
        d.due("another OFTEN, once", g.ask(2), 1);
    }

    private static void oftenThatFails(Due d) {
        GardenRules g = new GardenRules();
        g.rule(3, 0, 1, 1);
        g.rule(8, 0, 2, 0);
        g.show(0, 1);
        g.show(1, 1);
        d.due("OFTEN, once", g.ask(1), 0);
        g.show(1, 0);
        d.due("OFTEN, its part FAILS", g.ask(1), ZERO);
        g.show(0, 0);
        g.show(1, 1);
        d.due("OFTEN, a FAILURE is no yes", g.ask(1), 0);
        g.show(0, 1);
        d.due("OFTEN, twice", g.ask(1), 1);
        g.show(1, 0);
        d.due("OFTEN, FAILS though it has been often", g.ask(1), ZERO);
    }

    private static void elses(Due d) {
        GardenRules g = noYesAndFailing();
        g.show(1, 8);
        g.rule(4, 1, 0, 0);
        g.rule(9, 0, 1, 0);
        g.rule(9, 1, 0, 0);
        g.rule(9, 2, 0, 0);
        g.rule(9, 2, 1, 0);
        g.rule(9, 2, 3, 0);
        g.rule(9, 8, 1, 0);
        g.rule(5, 7, 0, 0);
        int[] said = {0, 1, 0, 1, INDEX, 1, 0};
        int[] asked = {2, 2, 3, 3, 3, 5, 4};
        for (int i = 0; i < said.length; i++) {
            d.due("ELSE, RULE " + (4 + i), g.ask(4 + i), said[i]);
            d.due("ELSE, RULE " + (4 + i) + " asks", g.count(5), asked[i]);
        }
    }
}
