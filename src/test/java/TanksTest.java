/** Promises 4 and 5: fill and tank. */
public final class TanksTest {
    public static void main(String[] args) {
        Due d = new Due();
        GardenRules g = new GardenRules();
        for (int t = 0; t < 6; t++) {
            d.due("fill, new", g.fill(t, t), 100);
        }
        for (int t = 0; t < 6; t++) {
            d.due("tank(" + t + ")", g.tank(t), t);
        }
        d.due("fill(5, 1000000)", g.fill(5, 1000000), 5);
        d.due("fill(5, 1000001)", g.fill(5, 1000001), GardenRules.OUTSIDE);
        d.due("fill(5, -1)", g.fill(5, -1), GardenRules.OUTSIDE);
        d.due("fill(5, least)", g.fill(5, Integer.MIN_VALUE), GardenRules.OUTSIDE);
        d.due("tank(5)", g.tank(5), 1000000);
        d.due("fill(5, 0)", g.fill(5, 0), 1000000);
        d.due("tank(5)", g.tank(5), 0);
        for (int t : new int[] {-1, 6, Integer.MIN_VALUE, Integer.MAX_VALUE}) {
            d.due("tank(" + t + ")", g.tank(t), GardenRules.UNKNOWN);
            d.due("fill(" + t + ", 1)", g.fill(t, 1), GardenRules.UNKNOWN);
            d.due("fill(" + t + ", -1)", g.fill(t, -1), GardenRules.UNKNOWN);
        }
        for (int t = 0; t < 5; t++) {
            d.due("tank(" + t + "), at the end", g.tank(t), t);
        }
        d.end();
    }
}
