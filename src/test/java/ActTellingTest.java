/** Promise 8: which ACTS can be told, and which are refused by what. */
public final class ActTellingTest {
    private static final int UNKNOWN = GardenRules.UNKNOWN, OUTSIDE = GardenRules.OUTSIDE, FULL = GardenRules.FULL;
    private static final int NONE = GardenRules.NONE;

    public static void main(String[] args) {
        Due d = new Due();
        kindsComeFirst(d);
        tanksAndSensorsAreKnown(d);
        rulesAndActsAreKnown(d);
        otherNumbersAreAsTold(d);
        fullComesLast(d);
        d.end();
    }

    private static void kindsComeFirst(Due d) {
        GardenRules g = new GardenRules();
        for (int kind : new int[] {-1, 9, Integer.MIN_VALUE, Integer.MAX_VALUE}) {
            d.due("kind " + kind, g.act(kind, 0, 0, 0), OUTSIDE);
            d.due("kind " + kind + ", unknown", g.act(kind, -5, -5, -5), OUTSIDE);
        }
        d.due("count(1)", g.count(1), 0);
    }

    private static void tanksAndSensorsAreKnown(Due d) {
        GardenRules g = new GardenRules();
        int[][] unknown = {{0, -1, 1, 0}, {0, 6, 1, 0}, {0, 6, -1, 0}, {1, -1, 0, 1}, {1, 6, 0, 1}, {1, 0, -1, 1},
            {1, 0, 6, 1}, {1, 0, 6, -1}, {8, -1, 0, 0}, {8, 8, 0, 0}, {8, 0, -1, 0}, {8, 0, 6, 0}};
        allAnswer(d, g, unknown, UNKNOWN);
        d.due("POUR of 5, c not looked at", g.act(0, 5, 1, -9), 0);
        d.due("MOVE from 5 to 5", g.act(1, 5, 5, 1), 1);
        d.due("SHOW 7 of 5, c not looked at", g.act(8, 7, 5, -9), 2);
        d.due("LAST, nothing looked at", g.act(7, -9, -9, -9), 3);
    }

    private static void rulesAndActsAreKnown(Due d) {
        GardenRules g = new GardenRules();
        int[][] ofNone = {{2, 0, NONE, NONE}, {3, 0, 0, 0}, {4, 0, 1, 0}, {5, 0, 1, 0}, {6, 0, 0, 0}};
        allAnswer(d, g, ofNone, UNKNOWN);
        g.rule(0, 0, 0, 0);
        g.act(0, 0, 1, 0);
        int[][] unknown = {{2, -1, 0, 0}, {2, 1, 0, 0}, {2, 0, 1, 0}, {2, 0, 0, 1}, {2, 0, -2, 0}, {2, 0, 0, -2},
            {3, NONE, 0, 0}, {3, 0, NONE, 0}, {3, 1, 0, 0}, {3, 0, 1, 0}, {4, NONE, 1, 0}, {4, 1, 1, 0},
            {4, 1, 10, 0}, {5, NONE, 1, 0}, {5, 1, 1, 0}, {5, 1, 101, 0}, {6, NONE, 0, 0}, {6, 0, NONE, 0},
            {6, 1, 0, 0}, {6, 0, 1, 0}};
        allAnswer(d, g, unknown, UNKNOWN);
        d.due("WHEN of NONE, NONE", g.act(2, 0, NONE, NONE), 1);
        d.due("WHEN of 1, 0", g.act(2, 0, 1, 0), 2);
        d.due("THEN, c not looked at", g.act(3, 2, 1, -9), 3);
        d.due("TRY, c not looked at", g.act(6, 2, 1, -9), 4);
        d.due("TIMES, c not looked at", g.act(4, 2, 1, -9), 5);
        d.due("LATER, c not looked at", g.act(5, 2, 1, -9), 6);
    }

    private static void otherNumbersAreAsTold(Due d) {
        GardenRules g = new GardenRules();
        g.act(0, 0, 1, 0);
        int[][] outside = {{0, 0, -1, 0}, {0, 0, 1001, 0}, {1, 0, 0, -1}, {1, 0, 0, 1001}, {4, 0, -1, 0},
            {4, 0, 10, 0}, {5, 0, -1, 0}, {5, 0, 101, 0}, {5, 0, Integer.MIN_VALUE, 0}};
        allAnswer(d, g, outside, OUTSIDE);
        int[][] edges = {{0, 0, 0, 0}, {0, 0, 1000, 0}, {1, 0, 0, 0}, {1, 0, 0, 1000}, {4, 0, 0, 0}, {4, 0, 9, 0},
            {5, 0, 0, 0}, {5, 0, 100, 0}};
        for (int i = 0; i < edges.length; i++) {
            int[] e = edges[i];
            d.due("edge " + i, g.act(e[0], e[1], e[2], e[3]), 1 + i);
        }
    }

    private static void fullComesLast(Due d) {
        GardenRules g = new GardenRules();
        for (int x = 0; x < 40; x++) {
            d.due("act " + x, g.act(0, 0, 0, 0), x);
        }
        d.due("one more", g.act(0, 0, 0, 0), FULL);
        d.due("one more LAST", g.act(7, 0, 0, 0), FULL);
        d.due("one more of 40", g.act(4, 40, 0, 0), UNKNOWN);
        d.due("one more, b outside", g.act(0, 0, -1, 0), OUTSIDE);
        d.due("one more, kind outside", g.act(9, 0, 0, 0), OUTSIDE);
        d.due("count(1)", g.count(1), 40);
        d.due("run(39)", g.run(39), 1);
        d.due("run(40)", g.run(40), UNKNOWN);
    }

    private static void allAnswer(Due d, GardenRules g, int[][] told, int want) {
        int before = g.count(1);
        for (int[] t : told) {
            d.due("act(" + t[0] + ", " + t[1] + ", " + t[2] + ", " + t[3] + ")", g.act(t[0], t[1], t[2], t[3]), want);
        }
        d.due("count(1) after refusals", g.count(1), before);
    }
}
