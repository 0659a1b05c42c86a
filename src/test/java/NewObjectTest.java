/** Promise 1: a new object is as at first, and shares nothing with another. */
public final class NewObjectTest {
    public static void main(String[] args) {
        Due d = new Due();
        isAsAtFirst(d, new GardenRules());
        GardenRules used = new GardenRules();
        used.show(0, 9);
        used.fill(0, 9);
        used.rule(0, 0, 0, 0);
        used.act(0, 0, 1, 0);
        used.act(5, 0, 1, 0);
        used.run(0);
        used.run(1);
        used.tick(3);
        used.shown(-1);
        isAsAtFirst(d, new GardenRules());
        d.end();
    }

    private static void isAsAtFirst(Due d, GardenRules g) {
        d.due("why()", g.why(), 0);
        d.due("amount()", g.amount(), 0);
        for (int s = 0; s < 8; s++) {
            d.due("shown(" + s + ")", g.shown(s), 0);
        }
        for (int t = 0; t < 6; t++) {
            d.due("tank(" + t + ")", g.tank(t), 100);
        }
        for (int what = 0; what < 7; what++) {
            d.due("count(" + what + ")", g.count(what), 0);
        }
        d.due("failed(0, 0)", g.failed(0, 0), GardenRules.NONE);
        d.due("ask(0)", g.ask(0), GardenRules.UNKNOWN);
        d.due("run(0)", g.run(0), GardenRules.UNKNOWN);
    }
}
