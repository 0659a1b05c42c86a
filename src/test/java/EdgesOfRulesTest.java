/** The edges that "Terms" and promises 6 and 7 name of RULES: how they are told, and what each KIND says. */
public final class EdgesOfRulesTest extends Told {
    public static void main(String[] args) {
        fortyRules();
        numbersComeInOrderAndRefusedOnesTakeNone();
        kindsAre0To9();
        sensorsOfRulesAre0To7();
        partsAreElderRules();
        timesOfOftenAre1To100();
        distanceOfNearIsNotBelow0();
        whatAKindHasNotIsNotLookedAt();
        askedRulesAreKnown();
        above();
        near();
        other();
        otherKeepsWhatWasShownWhenTold();
        share();
        shareByZero();
        pointed();
        pointedBeyondTheSensors();
        notTurns();
        bothAsksTheSecondOnlyAfterYes();
        eitherAsksTheSecondOnlyAfterNo();
        oftenOnce();
        oftenAHundredTimes();
        oftenCountsThisTimeToo();
        oftenCountsWhatItAskedItself();
        oftenCountsTwiceInOneAsk();
        oftenCountsNoFailure();
        elseIsAskedOnlyIfTheFirstFails();
        elseTakesEachFailureOfRules();
        aPartThatFailsFailsAll();
        DUE.end();
    }

    // ---- telling

    /** "RULES, 40 at most." */
    private static void fortyRules() {
        GardenRules g = new GardenRules();
        for (int r = 0; r < 40; r++) {
            due("the RULE after " + r, above(g, 0, -1), r);
            due("count(0)", g.count(0), r + 1);
        }
        for (int kind = 0; kind <= 9; kind++) {
            due("a 41st of KIND " + kind, g.rule(kind, 0, 1, 0), FULL);
        }
        due("count(0) at the end", g.count(0), 40);
        due("ask(39)", g.ask(39), 1);
        due("ask(40)", g.ask(40), UNKNOWN);
    }

    /** "are numbered as they come" */
    private static void numbersComeInOrderAndRefusedOnesTakeNone() {
        GardenRules g = new GardenRules();
        due("refused by KIND", g.rule(10, 0, 0, 0), OUTSIDE);
        due("the first", above(g, 0, 0), 0);
        due("refused by SENSOR", above(g, 8, 0), UNKNOWN);
        due("the second", above(g, 0, 0), 1);
        due("refused by number", near(g, 0, 0, -1), OUTSIDE);
        due("the third", above(g, 0, 0), 2);
    }

    /** "OUTSIDE: KIND (0 .. 9; ahead of all)" */
    private static void kindsAre0To9() {
        GardenRules g = new GardenRules();
        for (int kind : new int[] {-1, 10, LEAST, GREATEST}) {
            due("KIND " + kind, g.rule(kind, 0, 0, 0), OUTSIDE);
            due("KIND " + kind + " of unknown", g.rule(kind, -1, -1, -1), OUTSIDE);
        }
        due("count(0)", g.count(0), 0);
        due("KIND 0", g.rule(0, 0, 0, 0), 0);
        due("KIND 9", g.rule(9, 0, 0, 0), 1);
    }

    /** "UNKNOWN: SENSORS (a; b of 3)" */
    private static void sensorsOfRulesAre0To7() {
        for (int kind = 0; kind <= 4; kind++) {
            GardenRules g = new GardenRules();
            for (int s : new int[] {-1, 8, LEAST, GREATEST}) {
                due("KIND " + kind + ", a " + s, g.rule(kind, s, 0, 0), UNKNOWN);
            }
            due("count(0)", g.count(0), 0);
            due("KIND " + kind + ", a 0", g.rule(kind, 0, 0, 0), 0);
            due("KIND " + kind + ", a 7", g.rule(kind, 7, 7, 0), 1);
        }
        GardenRules g = new GardenRules();
        for (int s : new int[] {-1, 8, LEAST, GREATEST}) {
            due("SHARE, b " + s, share(g, 0, s, 0), UNKNOWN);
        }
        due("SHARE, a 7, b 0", share(g, 7, 0, 0), 0);
        due("SHARE, a 0, b 7", share(g, 0, 7, 0), 1);
    }

    /** "RULES (a; b of 6, 7, 9)", elder ones all. */
    private static void partsAreElderRules() {
        for (int kind = 5; kind <= 9; kind++) {
            boolean hasTwo = kind == 6 || kind == 7 || kind == 9;
            GardenRules g = new GardenRules();
            due("KIND " + kind + " when there is no RULE", g.rule(kind, 0, 1, 0), UNKNOWN);
            yes(g);
            yes(g);
            for (int r : new int[] {-1, 2, 3, 40, LEAST, GREATEST}) {
                due("KIND " + kind + ", a " + r, g.rule(kind, r, 1, 0), UNKNOWN);
                if (hasTwo) {
                    due("KIND " + kind + ", b " + r, g.rule(kind, 0, r, 0), UNKNOWN);
                }
            }
            due("count(0)", g.count(0), 2);
            due("KIND " + kind + ", a 0, b 1", g.rule(kind, 0, 1, 0), 2);
            due("KIND " + kind + ", a the youngest", g.rule(kind, 2, 1, 0), 3);
            if (hasTwo) {
                due("KIND " + kind + ", b 0", g.rule(kind, 1, 0, 0), 4);
                due("KIND " + kind + ", b the youngest", g.rule(kind, 1, 4, 0), 5);
            }
        }
    }

    /** "OUTSIDE: .. b of 8 (1 .. 100)" */
    private static void timesOfOftenAre1To100() {
        GardenRules g = new GardenRules();
        yes(g);
        for (int b : new int[] {0, -1, 101, LEAST, GREATEST}) {
            due("OFTEN, b " + b, often(g, 0, b), OUTSIDE);
        }
        due("count(0)", g.count(0), 1);
        due("OFTEN, b 1", often(g, 0, 1), 1);
        due("OFTEN, b 100", often(g, 0, 100), 2);
    }

    /** "c of 1 (below 0)" */
    private static void distanceOfNearIsNotBelow0() {
        GardenRules g = new GardenRules();
        due("NEAR, c -1", near(g, 0, 0, -1), OUTSIDE);
        due("NEAR, c least", near(g, 0, 0, LEAST), OUTSIDE);
        due("count(0)", g.count(0), 0);
        due("NEAR, c 0", near(g, 0, 0, 0), 0);
        due("NEAR, c greatest", near(g, 0, 0, GREATEST), 1);
    }

    /** "what a KIND has not is not looked at" */
    private static void whatAKindHasNotIsNotLookedAt() {
        for (int odd : new int[] {LEAST, -1, 0, 8, 40, 101, GREATEST}) {
            GardenRules g = new GardenRules();
            due("ABOVE, any b and c", g.rule(0, 0, odd, odd), 0);
            due("NEAR, any b", g.rule(1, 0, odd, 0), 1);
            due("OTHER, any b and c", g.rule(2, 0, odd, odd), 2);
            due("SHARE, any c", g.rule(3, 0, 0, odd), 3);
            due("POINTED, any b and c", g.rule(4, 0, odd, odd), 4);
            due("NOT, any b and c", g.rule(5, 0, odd, odd), 5);
            due("BOTH, any c", g.rule(6, 0, 0, odd), 6);
            due("EITHER, any c", g.rule(7, 0, 0, odd), 7);
            due("OFTEN, any c", g.rule(8, 0, 1, odd), 8);
            due("ELSE, any c", g.rule(9, 0, 0, odd), 9);
        }
    }

    // ---- asking

    private static void askedRulesAreKnown() {
        GardenRules g = new GardenRules();
        due("ask(0), when there is none", g.ask(0), UNKNOWN);
        yes(g);
        no(g);
        due("ask(0)", g.ask(0), 1);
        due("ask(1)", g.ask(1), 0);
        for (int r : new int[] {-1, 2, 39, 40, LEAST, GREATEST}) {
            due("ask(" + r + ")", g.ask(r), UNKNOWN);
        }
        due("count(6)", g.count(6), 2);
    }

    /** "ABOVE: SENSOR a shows more than b." Rows: what it shows, b, what is said. */
    private static void above() {
        int[][] rows = {{5, 5, 0}, {6, 5, 1}, {4, 5, 0}, {0, 0, 0}, {0, -1, 1}, {-1, 0, 0}, {GREATEST, GREATEST, 0},
            {GREATEST, GREATEST - 1, 1}, {LEAST, LEAST, 0}, {LEAST + 1, LEAST, 1}, {GREATEST, LEAST, 1},
            {LEAST, GREATEST, 0}};
        for (int[] row : rows) {
            GardenRules g = new GardenRules();
            g.show(7, row[0]);
            above(g, 7, row[1]);
            due(row[0] + " ABOVE " + row[1], g.ask(0), row[2]);
        }
    }

    /** "NEAR: what a shows is no more than c from b (as longs)." Rows: what it shows, b, c, what is said. */
    private static void near() {
        int[][] rows = {{10, 10, 0, 1}, {11, 10, 0, 0}, {9, 10, 0, 0}, {13, 10, 3, 1}, {14, 10, 3, 0}, {7, 10, 3, 1},
            {6, 10, 3, 0}, {LEAST, -1, GREATEST, 1}, {LEAST, 0, GREATEST, 0}, {0, LEAST, GREATEST, 0},
            {-1, LEAST, GREATEST, 1}, {GREATEST, 0, GREATEST, 1}, {GREATEST, -1, GREATEST, 0},
            {-1, GREATEST, GREATEST, 0}, {GREATEST, LEAST, 1, 0}, {LEAST, GREATEST, 1, 0},
            {GREATEST, LEAST, GREATEST, 0}, {LEAST, GREATEST, GREATEST, 0}, {LEAST, LEAST, 0, 1},
            {GREATEST, GREATEST, 0, 1}, {LEAST, 0, 0, 0}};
        for (int[] row : rows) {
            GardenRules g = new GardenRules();
            g.show(7, row[0]);
            near(g, 7, row[1], row[2]);
            due(row[0] + " NEAR " + row[1] + " by " + row[2], g.ask(0), row[3]);
        }
    }

    /** "OTHER: a shows another number than when the RULE was told." Rows: at telling, at asking, what is said. */
    private static void other() {
        int[][] rows = {{4, 4, 0}, {4, 3, 1}, {4, 5, 1}, {0, 0, 0}, {0, LEAST, 1}, {LEAST, LEAST, 0},
            {LEAST, GREATEST, 1}, {GREATEST, GREATEST, 0}, {GREATEST, LEAST, 1}, {-1, 1, 1}};
        for (int[] row : rows) {
            GardenRules g = new GardenRules();
            g.show(7, row[0]);
            other(g, 7);
            g.show(7, row[1]);
            due("OTHER than " + row[0] + " at " + row[1], g.ask(0), row[2]);
        }
    }

    private static void otherKeepsWhatWasShownWhenTold() {
        GardenRules g = new GardenRules();
        other(g, 3);
        g.show(3, 1);
        other(g, 3);
        other(g, 4);
        for (int shown = 0; shown <= 2; shown++) {
            g.show(3, shown);
            due("OTHER than 0 at " + shown, g.ask(0), shown == 0 ? 0 : 1);
            due("OTHER than 1 at " + shown, g.ask(1), shown == 1 ? 0 : 1);
            due("OTHER of another SENSOR", g.ask(2), 0);
        }
    }

    /** "SHARE: what a shows by what b shows, cut, is c at least." Rows: shown by a, by b, c, what is said. */
    private static void share() {
        int[][] rows = {{7, 2, 3, 1}, {7, 2, 4, 0}, {8, 2, 4, 1}, {-7, 2, -3, 1}, {-7, 2, -2, 0}, {7, -2, -3, 1},
            {7, -2, -2, 0}, {-7, -2, 3, 1}, {-7, -2, 4, 0}, {1, 2, 0, 1}, {1, 2, 1, 0}, {-1, 2, 0, 1}, {-1, 2, 1, 0},
            {1, -2, 0, 1}, {0, 5, 0, 1}, {0, 5, 1, 0}, {0, LEAST, 0, 1}, {LEAST, 1, LEAST, 1}, {LEAST, 1, LEAST + 1, 0},
            {GREATEST, 1, GREATEST, 1}, {GREATEST, -1, -GREATEST, 1}, {GREATEST, -1, -GREATEST + 1, 0},
            {LEAST, LEAST, 1, 1}, {LEAST, LEAST, 2, 0}, {GREATEST, LEAST, 0, 1}, {GREATEST, LEAST, 1, 0},
            {LEAST, GREATEST, -1, 1}, {LEAST, GREATEST, 0, 0}, {LEAST + 1, -1, GREATEST, 1}, {LEAST, -1, GREATEST, 1}};
        for (int[] row : rows) {
            GardenRules g = new GardenRules();
            g.show(0, row[0]);
            g.show(7, row[1]);
            share(g, 0, 7, row[2]);
            due("SHARE of " + row[0] + " by " + row[1] + ", " + row[2] + " at least", g.ask(0), row[3]);
        }
    }

    /** "(ZERO)" */
    private static void shareByZero() {
        for (int shown : new int[] {LEAST, -1, 0, 1, GREATEST}) {
            GardenRules g = new GardenRules();
            g.show(0, shown);
            share(g, 0, 7, LEAST);
            share(g, 0, 7, GREATEST);
            saysSo("SHARE of " + shown + " by 0", g, 0, ZERO, 1);
            saysSo("SHARE of " + shown + " by 0, greatest", g, 1, ZERO, 1);
            g.show(7, 1);
            due("SHARE of " + shown + " by 1", g.ask(0), 1);
            g.show(7, -1);
            due("SHARE of " + shown + " by -1", g.ask(0), 1);
        }
        GardenRules g = new GardenRules();
        share(g, 2, 2, 1);
        due("SHARE of a SENSOR by itself at 0", g.ask(0), ZERO);
        g.show(2, -3);
        due("SHARE of a SENSOR by itself at -3", g.ask(0), 1);
    }

    /** "POINTED: the SENSOR whose number a shows shows more than b" */
    private static void pointed() {
        GardenRules g = new GardenRules();
        pointed(g, 3, 20);
        for (int s = 0; s <= 7; s++) {
            g.show(3, s);
            if (s != 3) {
                for (int shown = 19; shown <= 21; shown++) {
                    g.show(s, shown);
                    due("POINTED at " + s + ", which shows " + shown, g.ask(0), shown == 21 ? 1 : 0);
                }
                g.show(s, 0);
            }
        }
        pointed(g, 3, 2);
        pointed(g, 3, 3);
        g.show(3, 3);
        due("POINTED at itself, 3 is more than 2", g.ask(1), 1);
        due("POINTED at itself, 3 is not more than 3", g.ask(2), 0);
    }

    /** "(INDEX)" */
    private static void pointedBeyondTheSensors() {
        GardenRules g = new GardenRules();
        pointed(g, 3, LEAST);
        for (int s : new int[] {-1, 8, 9, LEAST, GREATEST}) {
            g.show(3, s);
            saysSo("POINTED at " + s, g, 0, INDEX, 1);
        }
        g.show(3, 0);
        due("POINTED at 0", g.ask(0), 1);
        g.show(3, 7);
        due("POINTED at 7", g.ask(0), 1);
    }

    private static void notTurns() {
        GardenRules g = new GardenRules();
        not(g, yes(g));
        not(g, no(g));
        saysSo("NOT of yes", g, 1, 0, 2);
        saysSo("NOT of no", g, 3, 1, 2);
    }

    /** "BOTH: a says yes, and then b does (b is not asked, if a says no)." */
    private static void bothAsksTheSecondOnlyAfterYes() {
        GardenRules g = new GardenRules();
        int no = no(g), yes = yes(g), zero = zero(g);
        saysSo("BOTH yes, yes", g, both(g, yes, yes), 1, 3);
        saysSo("BOTH yes, no", g, both(g, yes, no), 0, 3);
        saysSo("BOTH no, yes", g, both(g, no, yes), 0, 2);
        saysSo("BOTH no, FAILS", g, both(g, no, zero), 0, 2);
        saysSo("BOTH yes, FAILS", g, both(g, yes, zero), ZERO, 3);
        saysSo("BOTH FAILS, no", g, both(g, zero, no), ZERO, 2);
    }

    /** "EITHER: a says yes, or then b does (likewise)." */
    private static void eitherAsksTheSecondOnlyAfterNo() {
        GardenRules g = new GardenRules();
        int no = no(g), yes = yes(g), zero = zero(g);
        saysSo("EITHER no, no", g, either(g, no, no), 0, 3);
        saysSo("EITHER no, yes", g, either(g, no, yes), 1, 3);
        saysSo("EITHER yes, no", g, either(g, yes, no), 1, 2);
        saysSo("EITHER yes, FAILS", g, either(g, yes, zero), 1, 2);
        saysSo("EITHER no, FAILS", g, either(g, no, zero), ZERO, 3);
        saysSo("EITHER FAILS, yes", g, either(g, zero, yes), ZERO, 2);
    }

    /** "OFTEN: .. it has said yes b times or more": b is 1, the least. */
    private static void oftenOnce() {
        GardenRules g = new GardenRules();
        int often = often(g, no(g), 1);
        saysSo("OFTEN 1, no", g, often, 0, 2);
        g.show(0, 1);
        saysSo("OFTEN 1, the first yes", g, often, 1, 2);
        saysSo("OFTEN 1, the second yes", g, often, 1, 2);
        g.show(0, 0);
        saysSo("OFTEN 1, no again", g, often, 1, 2);
    }

    /** b is 100, the greatest. */
    private static void oftenAHundredTimes() {
        GardenRules g = new GardenRules();
        int often = often(g, yes(g), 100);
        for (int i = 1; i <= 99; i++) {
            due("OFTEN 100, yes " + i, g.ask(often), 0);
        }
        g.show(0, -5);
        due("OFTEN 100, no", g.ask(often), 0);
        g.show(0, 0);
        due("OFTEN 100, yes 100", g.ask(often), 1);
        due("OFTEN 100, yes 101", g.ask(often), 1);
        g.show(0, -5);
        due("OFTEN 100, no after them", g.ask(often), 1);
    }

    /** "(this time, too)" */
    private static void oftenCountsThisTimeToo() {
        GardenRules g = new GardenRules();
        int often = often(g, yes(g), 2);
        due("OFTEN 2, the first yes", g.ask(often), 0);
        due("OFTEN 2, the second yes", g.ask(often), 1);
    }

    /** "as often as this RULE asked it" */
    private static void oftenCountsWhatItAskedItself() {
        GardenRules g = new GardenRules();
        int yes = yes(g);
        int two = often(g, yes, 2);
        int another = often(g, yes, 2);
        g.ask(yes);
        g.ask(yes);
        g.ask(both(g, yes, yes));
        due("OFTEN, asked by others before", g.ask(two), 0);
        due("OFTEN, asked by another OFTEN before", g.ask(another), 0);
        due("OFTEN, the second time", g.ask(two), 1);
        int young = often(g, yes, 1);
        int ofOften = often(g, young, 2);
        due("OFTEN of OFTEN, once", g.ask(ofOften), 0);
        due("OFTEN of OFTEN, twice", g.ask(ofOften), 1);
    }

    private static void oftenCountsTwiceInOneAsk() {
        GardenRules g = new GardenRules();
        int often = often(g, yes(g), 4);
        int twice = either(g, often, often);
        saysSo("OFTEN 4, two of four", g, twice, 0, 5);
        saysSo("OFTEN 4, four of four", g, twice, 1, 5);
        saysSo("OFTEN 4, five", g, twice, 1, 3);
    }

    private static void oftenCountsNoFailure() {
        GardenRules g = new GardenRules();
        int share = share(g, 2, 3, 1);
        int often = often(g, share, 2);
        g.show(2, 1);
        due("OFTEN 2, FAILS at first", g.ask(often), ZERO);
        due("OFTEN 2, FAILS again", g.ask(often), ZERO);
        g.show(3, 1);
        due("OFTEN 2, the first yes", g.ask(often), 0);
        g.show(3, 0);
        due("OFTEN 2, FAILS between", g.ask(often), ZERO);
        g.show(3, 2);
        due("OFTEN 2, no", g.ask(often), 0);
        g.show(3, 1);
        due("OFTEN 2, the second yes", g.ask(often), 1);
        g.show(3, 0);
        due("OFTEN 2, FAILS though it was often", g.ask(often), ZERO);
    }

    /** "ELSE: what a says; what b says, if a FAILS" */
    private static void elseIsAskedOnlyIfTheFirstFails() {
        GardenRules g = new GardenRules();
        int no = no(g), yes = yes(g), zero = zero(g);
        saysSo("ELSE yes, no", g, elses(g, yes, no), 1, 2);
        saysSo("ELSE no, yes", g, elses(g, no, yes), 0, 2);
        saysSo("ELSE FAILS, no", g, elses(g, zero, no), 0, 3);
        saysSo("ELSE FAILS, yes", g, elses(g, zero, yes), 1, 3);
        saysSo("ELSE yes, FAILS", g, elses(g, yes, zero), 1, 2);
    }

    private static void elseTakesEachFailureOfRules() {
        GardenRules g = new GardenRules();
        int yes = yes(g), zero = zero(g), index = index(g);
        saysSo("ELSE ZERO, yes", g, elses(g, zero, yes), 1, 3);
        saysSo("ELSE INDEX, yes", g, elses(g, index, yes), 1, 3);
        saysSo("ELSE ZERO, INDEX", g, elses(g, zero, index), INDEX, 3);
        saysSo("ELSE INDEX, ZERO", g, elses(g, index, zero), ZERO, 3);
        int deeper = not(g, both(g, yes, index));
        saysSo("ELSE of a part that FAILS", g, elses(g, deeper, yes), 1, 6);
    }

    /** "or FAILS (of a part, too: then all of it does, but as told)" */
    private static void aPartThatFailsFailsAll() {
        GardenRules g = new GardenRules();
        int no = no(g), yes = yes(g), index = index(g);
        saysSo("NOT", g, not(g, index), INDEX, 2);
        saysSo("BOTH, a", g, both(g, index, yes), INDEX, 2);
        saysSo("BOTH, b", g, both(g, yes, index), INDEX, 3);
        saysSo("EITHER, a", g, either(g, index, yes), INDEX, 2);
        saysSo("EITHER, b", g, either(g, no, index), INDEX, 3);
        saysSo("OFTEN", g, often(g, index, 1), INDEX, 2);
        saysSo("ELSE, both", g, elses(g, index, index), INDEX, 3);
        int deeper = not(g, not(g, not(g, index)));
        saysSo("NOT, NOT, NOT", g, deeper, INDEX, 4);
        comesTo("WHEN", g, when(g, index, NONE, NONE), INDEX, 0, 2);
    }
}
