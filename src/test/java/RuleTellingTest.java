/** Promise 6: which RULES can be told, and which are refused by what. */
public final class RuleTellingTest {
    private static final int UNKNOWN = GardenRules.UNKNOWN, OUTSIDE = GardenRules.OUTSIDE, FULL = GardenRules.FULL;
    private static final int ODD = 12345;

    public static void main(String[] args) {
        Due d = new Due();
        kindsComeFirst(d);
        sensorsAreKnown(d);
        rulesAreElder(d);
        otherNumbersAreAsTold(d);
        fullComesLast(d);
        d.end();
    }

    private static void kindsComeFirst(Due d) {
        GardenRules g = new GardenRules();
        for (int kind : new int[] {-1, 10, Integer.MIN_VALUE, Integer.MAX_VALUE}) {
            d.due("kind " + kind, g.rule(kind, 0, 0, 0), OUTSIDE);
            d.due("kind " + kind + ", unknown", g.rule(kind, -5, -5, -5), OUTSIDE);
        }
        d.due("count(0)", g.count(0), 0);
    }

    private static void sensorsAreKnown(Due d) {
        for (int kind = 0; kind <= 4; kind++) {
            GardenRules g = new GardenRules();
            d.due("kind " + kind + " of -1", g.rule(kind, -1, 0, 0), UNKNOWN);
            d.due("kind " + kind + " of 8", g.rule(kind, 8, 0, 0), UNKNOWN);
            d.due("kind " + kind + ", b 8", g.rule(kind, 0, 8, 0), kind == 3 ? UNKNOWN : 0);
            d.due("kind " + kind + ", b -1", g.rule(kind, 0, -1, 0), kind == 3 ? UNKNOWN : 1);
            d.due("kind " + kind + " of 7", g.rule(kind, 7, 7, 0), kind == 3 ? 0 : 2);
        }
    }

    private static void rulesAreElder(Due d) {
        for (int kind = 5; kind <= 9; kind++) {
            GardenRules g = new GardenRules();
            boolean two = kind == 6 || kind == 7 || kind == 9;
            d.due("kind " + kind + " of none", g.rule(kind, 0, 1, 0), UNKNOWN);
            g.rule(0, 0, 0, 0);
            g.rule(0, 0, 0, 0);
            d.due("kind " + kind + " of -1", g.rule(kind, -1, 1, 0), UNKNOWN);
            d.due("kind " + kind + " of itself", g.rule(kind, 2, 1, 0), UNKNOWN);
            d.due("kind " + kind + ", b itself", g.rule(kind, 0, 2, 0), two ? UNKNOWN : 2);
            d.due("kind " + kind + ", b 5", g.rule(kind, 0, 5, 0), two ? UNKNOWN : 3);
            d.due("kind " + kind + " of 1, 1", g.rule(kind, 1, 1, ODD), two ? 2 : 4);
        }
    }

    private static void otherNumbersAreAsTold(Due d) {
        GardenRules g = new GardenRules();
        d.due("NEAR, c -1", g.rule(1, 0, 0, -1), OUTSIDE);
        d.due("NEAR, c least", g.rule(1, 0, 0, Integer.MIN_VALUE), OUTSIDE);
        d.due("NEAR, both wrong", g.rule(1, 8, 0, -1), UNKNOWN);
        d.due("NEAR, c 0", g.rule(1, 0, ODD, 0), 0);
        d.due("OFTEN, b 0", g.rule(8, 0, 0, 0), OUTSIDE);
        d.due("OFTEN, b 101", g.rule(8, 0, 101, 0), OUTSIDE);
        d.due("OFTEN, both wrong", g.rule(8, 1, 0, 0), UNKNOWN);
        d.due("OFTEN, b 1", g.rule(8, 0, 1, -1), 1);
        d.due("OFTEN, b 100", g.rule(8, 0, 100, ODD), 2);
        d.due("ABOVE, c not looked at", g.rule(0, 0, ODD, -1), 3);
        d.due("OTHER, b and c not looked at", g.rule(2, 0, -ODD, -1), 4);
        d.due("SHARE, c is any", g.rule(3, 0, 0, -ODD), 5);
        d.due("POINTED, c not looked at", g.rule(4, 0, -ODD, -1), 6);
        d.due("NOT, b and c not looked at", g.rule(5, 0, -ODD, -1), 7);
        d.due("BOTH, c not looked at", g.rule(6, 0, 0, -1), 8);
        d.due("count(0)", g.count(0), 9);
    }

    private static void fullComesLast(Due d) {
        GardenRules g = new GardenRules();
        for (int r = 0; r < 40; r++) {
            d.due("rule " + r, g.rule(0, 0, 0, 0), r);
        }
        d.due("one more", g.rule(0, 0, 0, 0), FULL);
        d.due("one more of 39", g.rule(5, 39, 0, 0), FULL);
        d.due("one more, of 40", g.rule(5, 40, 0, 0), UNKNOWN);
        d.due("one more, b outside", g.rule(8, 0, 0, 0), OUTSIDE);
        d.due("one more, kind outside", g.rule(10, 0, 0, 0), OUTSIDE);
        d.due("count(0)", g.count(0), 40);
        d.due("ask(39)", g.ask(39), 0);
        d.due("ask(40)", g.ask(40), UNKNOWN);
    }
}
