/** Promise 13: count. */
public final class CountsTest {
    public static void main(String[] args) {
        Due d = new Due();
        GardenRules g = new GardenRules();
        for (int what : new int[] {-1, 7, Integer.MIN_VALUE, Integer.MAX_VALUE}) {
            d.due("count(" + what + ")", g.count(what), GardenRules.OUTSIDE);
        }
        counts(d, g, 0, 0, 0, 0, 0, 0, 0);
        g.rule(0, 0, 0, 0);
        g.rule(5, 0, 0, 0);
        g.rule(10, 0, 0, 0);
        g.act(0, 0, 60, 0);
        g.act(5, 0, 2, 0);
        g.act(3, 1, 1, 0);
        g.act(2, 1, 2, 0);
        g.act(9, 0, 0, 0);
        counts(d, g, 2, 4, 0, 0, 0, 0, 0);
        g.ask(1);
        counts(d, g, 2, 4, 0, 0, 0, 2, 2);
        g.run(3);
        counts(d, g, 2, 4, 2, 0, 0, 6, 8);
        g.ask(2);
        g.run(4);
        g.tick(0);
        counts(d, g, 2, 4, 2, 0, 0, 6, 8);
        g.tick(1);
        counts(d, g, 2, 4, 2, 1, 0, 6, 8);
        g.tick(3);
        counts(d, g, 2, 4, 0, 4, 1, 6, 10);
        g.ask(0);
        counts(d, g, 2, 4, 0, 4, 1, 1, 11);
        g.run(0);
        counts(d, g, 2, 4, 0, 4, 1, 1, 12);
        d.end();
    }

    private static void counts(Due d, GardenRules g, int... want) {
        for (int what = 0; what < want.length; what++) {
            d.due("count(" + what + ")", g.count(what), want[what]);
        }
    }
}
