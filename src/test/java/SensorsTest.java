/** Promises 2, 3 and 14: show, shown and why. */
public final class SensorsTest {
    public static void main(String[] args) {
        Due d = new Due();
        eachSensorKeepsItsOwn(d);
        unknownSensorsChangeNothing(d);
        whyTellsOfTheLatestOnly(d);
        d.end();
    }

    private static void eachSensorKeepsItsOwn(Due d) {
        GardenRules g = new GardenRules();
        for (int s = 0; s < 8; s++) {
            d.due("show, new", g.show(s, 10 + s), 0);
        }
        for (int s = 0; s < 8; s++) {
            d.due("shown(" + s + ")", g.shown(s), 10 + s);
            d.due("show, again", g.show(s, -s), 10 + s);
            d.due("shown, again", g.shown(s), -s);
        }
        g.show(3, Integer.MAX_VALUE);
        d.due("show, greatest", g.show(3, Integer.MIN_VALUE), Integer.MAX_VALUE);
        d.due("shown, least", g.shown(3), Integer.MIN_VALUE);
    }

    private static void unknownSensorsChangeNothing(Due d) {
        int[] unknown = {-1, 8, Integer.MIN_VALUE, Integer.MAX_VALUE};
        GardenRules g = new GardenRules();
        for (int s = 0; s < 8; s++) {
            g.show(s, 5);
        }
        for (int s : unknown) {
            d.due("show(" + s + ", 7)", g.show(s, 7), 0);
            d.due("why()", g.why(), GardenRules.UNKNOWN);
            d.due("why(), again", g.why(), GardenRules.UNKNOWN);
            d.due("shown(0)", g.shown(0), 5);
            d.due("shown(" + s + ")", g.shown(s), 0);
            d.due("why()", g.why(), GardenRules.UNKNOWN);
        }
        for (int s = 0; s < 8; s++) {
            d.due("shown(" + s + ")", g.shown(s), 5);
        }
    }

    private static void whyTellsOfTheLatestOnly(Due d) {
        GardenRules g = new GardenRules();
        g.show(8, 1);
        g.show(7, 1);
        d.due("why() after show", g.why(), 0);
        g.shown(-1);
        g.shown(7);
        d.due("why() after shown", g.why(), 0);
        g.tank(-1);
        g.fill(0, -1);
        g.rule(-1, 0, 0, 0);
        g.ask(0);
        d.due("why() after others were refused", g.why(), 0);
        g.shown(8);
        g.tank(0);
        g.fill(0, 1);
        g.rule(0, 0, 0, 0);
        g.ask(0);
        g.tick(1);
        d.due("why() after others were not refused", g.why(), GardenRules.UNKNOWN);
    }
}
