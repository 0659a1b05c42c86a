/** The edges that "Terms" and promises 1 to 5 and 14 name: SENSORS, TANKS, THE TIME at first, and why(). */
public final class EdgesOfSensorsTest extends Told {
    private static final int[] NO_SENSORS = {-1, 8, 9, -8, 256, LEAST, GREATEST};
    private static final int[] NO_TANKS = {-1, 6, 7, -6, 256, LEAST, GREATEST};

    public static void main(String[] args) {
        sensorsShow0AtFirst();
        tanksHave100AtFirst();
        timeIs0AtFirst();
        sensorsAre0To7();
        sensorsShowAnyInt();
        showAnswersWhatItShowed();
        unknownSensorIs0AndToldByWhy();
        tanksAre0To5();
        fillIsFrom0ToAMillion();
        fillAnswersWhatItHad();
        fillIsUnknownAheadOfOutside();
        whyIs0AtFirst();
        whyIsOfTheLatestShowOrShown();
        whyIsNotOfOtherCalls();
        DUE.end();
    }

    /** "SENSORS 0 .. 7 show ints (0 at first)." */
    private static void sensorsShow0AtFirst() {
        GardenRules g = new GardenRules();
        for (int s = 0; s <= 7; s++) {
            due("shown(" + s + ") at first", g.shown(s), 0);
        }
        for (int s = 0; s <= 7; s++) {
            due("show(" + s + ", 1) at first", new GardenRules().show(s, 1), 0);
        }
    }

    /** "TANKS 0 .. 5 have amounts (100 each at first)." */
    private static void tanksHave100AtFirst() {
        GardenRules g = new GardenRules();
        for (int t = 0; t <= 5; t++) {
            due("tank(" + t + ") at first", g.tank(t), 100);
            due("fill(" + t + ", 1) at first", new GardenRules().fill(t, 1), 100);
        }
    }

    /** "THE TIME is 0 at first." */
    private static void timeIs0AtFirst() {
        due("count(3) at first", new GardenRules().count(3), 0);
        GardenRules g = new GardenRules();
        g.tick(1);
        due("count(3) after the first TICK", g.count(3), 1);
    }

    private static void sensorsAre0To7() {
        GardenRules g = new GardenRules();
        for (int s = 0; s <= 7; s++) {
            g.show(s, 100 + s);
            due("why() after show(" + s + ", ..)", g.why(), 0);
        }
        for (int s = 0; s <= 7; s++) {
            due("shown(" + s + ")", g.shown(s), 100 + s);
            due("why() after shown(" + s + ")", g.why(), 0);
        }
    }

    private static void sensorsShowAnyInt() {
        GardenRules g = new GardenRules();
        for (int v : new int[] {LEAST, LEAST + 1, -2, -1, 0, 1, GREATEST - 1, GREATEST}) {
            g.show(0, v);
            g.show(7, v);
            due("shown(0) of " + v, g.shown(0), v);
            due("shown(7) of " + v, g.shown(7), v);
            due("why() of " + v, g.why(), 0);
        }
    }

    private static void showAnswersWhatItShowed() {
        GardenRules g = new GardenRules();
        due("show(7, least)", g.show(7, LEAST), 0);
        due("show(7, greatest)", g.show(7, GREATEST), LEAST);
        due("show(7, greatest), again", g.show(7, GREATEST), GREATEST);
        due("show(7, -2)", g.show(7, UNKNOWN), GREATEST);
        due("show(7, 0), it showed -2", g.show(7, 0), UNKNOWN);
        due("why(), it was not refused", g.why(), 0);
    }

    /** "0 if it is UNKNOWN (told by why())." */
    private static void unknownSensorIs0AndToldByWhy() {
        for (int s : NO_SENSORS) {
            GardenRules g = new GardenRules();
            for (int known = 0; known <= 7; known++) {
                g.show(known, 5);
            }
            due("show(" + s + ", 7)", g.show(s, 7), 0);
            due("why() of it", g.why(), UNKNOWN);
            g.shown(0);
            due("shown(" + s + ")", g.shown(s), 0);
            due("why() of it", g.why(), UNKNOWN);
            for (int known = 0; known <= 7; known++) {
                due("shown(" + known + ") after " + s, g.shown(known), 5);
            }
        }
    }

    private static void tanksAre0To5() {
        GardenRules g = new GardenRules();
        for (int t = 0; t <= 5; t++) {
            g.fill(t, 10 + t);
        }
        for (int t = 0; t <= 5; t++) {
            due("tank(" + t + ")", g.tank(t), 10 + t);
        }
        for (int t : NO_TANKS) {
            due("tank(" + t + ")", g.tank(t), UNKNOWN);
            due("fill(" + t + ", 1)", g.fill(t, 1), UNKNOWN);
        }
        tanks("after unknown ones", g, 10, 11, 12, 13, 14, 15);
    }

    /** "A TANK has n (0 .. 1000000)." */
    private static void fillIsFrom0ToAMillion() {
        for (int t = 0; t <= 5; t++) {
            GardenRules g = new GardenRules();
            for (int n : new int[] {0, 1, 999999, 1000000}) {
                g.fill(t, n);
                due("tank(" + t + ") of " + n, g.tank(t), n);
                for (int wrong : new int[] {-1, 1000001, LEAST, GREATEST}) {
                    due("fill(" + t + ", " + wrong + ")", g.fill(t, wrong), OUTSIDE);
                    due("tank(" + t + ") after it", g.tank(t), n);
                }
            }
        }
    }

    private static void fillAnswersWhatItHad() {
        GardenRules g = new GardenRules();
        due("fill(5, 0)", g.fill(5, 0), 100);
        due("fill(5, 1000000)", g.fill(5, 1000000), 0);
        due("fill(5, 1000000), again", g.fill(5, 1000000), 1000000);
        int more = move(g, 0, 5, 100);
        g.run(more);
        due("fill(5, 1), it had more than can be filled", g.fill(5, 1), 1000100);
    }

    private static void fillIsUnknownAheadOfOutside() {
        GardenRules g = new GardenRules();
        for (int t : NO_TANKS) {
            for (int n : new int[] {-1, 1000001, LEAST, GREATEST}) {
                due("fill(" + t + ", " + n + ")", g.fill(t, n), UNKNOWN);
            }
        }
        tanks("after them", g, 100, 100, 100, 100, 100, 100);
    }

    private static void whyIs0AtFirst() {
        due("why() at first", new GardenRules().why(), 0);
    }

    /** "What the latest call of show(), shown() was refused by; 0." */
    private static void whyIsOfTheLatestShowOrShown() {
        GardenRules g = new GardenRules();
        g.show(8, 0);
        due("why() after show(8, 0)", g.why(), UNKNOWN);
        due("why() again", g.why(), UNKNOWN);
        g.show(7, 0);
        due("why() after show(7, 0)", g.why(), 0);
        g.shown(-1);
        due("why() after shown(-1)", g.why(), UNKNOWN);
        g.shown(0);
        due("why() after shown(0)", g.why(), 0);
        g.show(-1, 0);
        g.shown(0);
        due("why() after show(-1, 0), shown(0)", g.why(), 0);
        g.shown(8);
        g.show(0, 0);
        due("why() after shown(8), show(0, 0)", g.why(), 0);
    }

    private static void whyIsNotOfOtherCalls() {
        GardenRules g = new GardenRules();
        refusedOtherCalls(g);
        due("why() after others were refused", g.why(), 0);
        g.shown(8);
        refusedOtherCalls(g);
        due("why() after others were refused, too", g.why(), UNKNOWN);
        g.fill(0, 10);
        g.tank(0);
        yes(g);
        g.ask(0);
        shows(g, 3, 0);
        later(g, 0, 1);
        g.run(0);
        g.run(1);
        g.tick(1);
        g.amount();
        g.failed(0, 0);
        g.count(0);
        due("why() after others were not refused", g.why(), UNKNOWN);
    }

    private static void refusedOtherCalls(GardenRules g) {
        g.fill(6, 0);
        g.fill(0, -1);
        g.tank(-1);
        g.rule(10, 0, 0, 0);
        g.rule(0, 8, 0, 0);
        g.ask(40);
        g.act(9, 0, 0, 0);
        g.act(8, 8, 0, 0);
        g.run(40);
        g.tick(0);
        g.failed(0, 3);
        g.count(7);
    }
}
