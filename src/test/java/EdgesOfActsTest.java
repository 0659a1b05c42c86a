/** The edges that "Terms" and promises 8 to 10 name of ACTS: how they are told, what each KIND does, the amounts. */
public final class EdgesOfActsTest extends Told {
    public static void main(String[] args) {
        fortyActs();
        numbersComeInOrderAndRefusedOnesTakeNone();
        kindsAre0To8();
        tanksOfActsAre0To5();
        sensorsOfShowAre0To7();
        rulesOfWhenAreKnown();
        partsAreElderActs();
        partsOfWhenMayBeNone();
        pouredIs0To1000();
        movedIs0To1000();
        timesAre0To9();
        laterIs0To100();
        whatAKindHasNotIsNotLookedAt();
        runActsAreKnown();
        amountIs0AtFirst();
        amountIsOfTheLatestRunThatWasNotRefused();
        pourUpToAllThatThereIs();
        pourOfNothing();
        moveUpToAllThatThereIs();
        moveToItself();
        moveBeyondWhatCanBeFilled();
        whenOfNone();
        whenItsRuleFails();
        thenStopsAtTheFirstThatFails();
        timesNone();
        timesNine();
        timesStopsAtTheFirstThatFails();
        tryTakesEachFailureButDeep();
        tryGivesAllTanksBack();
        tryOfWhatIsDone();
        tryWhoseSecondFails();
        tryGivesBackNothingElse();
        triesWithinTries();
        triesWithinTriesThatFail();
        tryAsPartOfEachKind();
        lastOfNone();
        lastIsTheOneBefore();
        showIsWhatTheTankHas();
        amountsWrap();
        amountsWrapWithinTimes();
        whatWasDoneAheadStaysDone();
        DUE.end();
    }

    // ---- telling

    /** "ACTS, 40 at most" */
    private static void fortyActs() {
        GardenRules g = new GardenRules();
        yes(g);
        for (int x = 0; x < 40; x++) {
            due("the ACT after " + x, pour(g, 0, 1), x);
            due("count(1)", g.count(1), x + 1);
        }
        for (int kind = 0; kind <= 8; kind++) {
            due("a 41st of KIND " + kind, g.act(kind, 0, 0, 0), FULL);
        }
        due("count(1) at the end", g.count(1), 40);
        due("run(39)", g.run(39), 1);
        due("run(40)", g.run(40), UNKNOWN);
    }

    /** "are numbered likewise" */
    private static void numbersComeInOrderAndRefusedOnesTakeNone() {
        GardenRules g = new GardenRules();
        due("refused by KIND", g.act(9, 0, 0, 0), OUTSIDE);
        due("the first", pour(g, 0, 0), 0);
        due("refused by TANK", pour(g, 6, 0), UNKNOWN);
        due("the second", pour(g, 0, 0), 1);
        due("refused by number", pour(g, 0, 1001), OUTSIDE);
        due("the third", pour(g, 0, 0), 2);
    }

    /** "OUTSIDE: KIND (0 .. 8; ahead of all)" */
    private static void kindsAre0To8() {
        GardenRules g = new GardenRules();
        for (int kind : new int[] {-1, 9, 10, LEAST, GREATEST}) {
            due("KIND " + kind, g.act(kind, 0, 0, 0), OUTSIDE);
            due("KIND " + kind + " of unknown", g.act(kind, -9, -9, -9), OUTSIDE);
        }
        due("count(1)", g.count(1), 0);
        due("KIND 0", g.act(0, 0, 0, 0), 0);
        due("KIND 8", g.act(8, 0, 0, 0), 1);
    }

    /** "UNKNOWN: TANKS .. that it names" */
    private static void tanksOfActsAre0To5() {
        GardenRules g = new GardenRules();
        for (int t : new int[] {-1, 6, 7, LEAST, GREATEST}) {
            due("POUR of " + t, pour(g, t, 1), UNKNOWN);
            due("MOVE from " + t, move(g, t, 0, 1), UNKNOWN);
            due("MOVE to " + t, move(g, 0, t, 1), UNKNOWN);
            due("SHOW of " + t, shows(g, 0, t), UNKNOWN);
        }
        due("count(1)", g.count(1), 0);
        for (int t : new int[] {0, 5}) {
            int first = g.count(1);
            due("POUR of " + t, pour(g, t, 1), first);
            due("MOVE from " + t, move(g, t, 1, 1), first + 1);
            due("MOVE to " + t, move(g, 1, t, 1), first + 2);
            due("SHOW of " + t, shows(g, 0, t), first + 3);
        }
    }

    /** "UNKNOWN: .. SENSORS .. that it names" */
    private static void sensorsOfShowAre0To7() {
        GardenRules g = new GardenRules();
        for (int s : new int[] {-1, 8, LEAST, GREATEST}) {
            due("SHOW by " + s, shows(g, s, 0), UNKNOWN);
        }
        due("SHOW by 0", shows(g, 0, 0), 0);
        due("SHOW by 7", shows(g, 7, 0), 1);
    }

    /** "UNKNOWN: .. RULES .. that it names" */
    private static void rulesOfWhenAreKnown() {
        GardenRules g = new GardenRules();
        pour(g, 0, 1);
        pour(g, 0, 1);
        due("WHEN, when there is no RULE", when(g, 0, 0, 0), UNKNOWN);
        yes(g);
        for (int r : new int[] {NONE, 1, 2, 40, LEAST, GREATEST}) {
            due("WHEN of RULE " + r, when(g, r, 0, 0), UNKNOWN);
        }
        due("WHEN of RULE 0", when(g, 0, 0, 0), 2);
        yes(g);
        due("WHEN of RULE 1", when(g, 1, 0, 0), 3);
    }

    /** "UNKNOWN: .. ACTS that it names", elder ones all. */
    private static void partsAreElderActs() {
        for (int kind : new int[] {3, 4, 5, 6}) {
            boolean hasTwo = kind == 3 || kind == 6;
            GardenRules g = new GardenRules();
            due("KIND " + kind + ", when there is no ACT", g.act(kind, 0, 0, 0), UNKNOWN);
            pour(g, 0, 1);
            pour(g, 0, 1);
            for (int x : new int[] {NONE, 2, 3, 40, LEAST, GREATEST}) {
                due("KIND " + kind + ", a " + x, g.act(kind, x, 0, 0), UNKNOWN);
                if (hasTwo) {
                    due("KIND " + kind + ", b " + x, g.act(kind, 0, x, 0), UNKNOWN);
                }
            }
            due("count(1)", g.count(1), 2);
            due("KIND " + kind + ", a 0, b 1", g.act(kind, 0, 1, 0), 2);
            due("KIND " + kind + ", a the youngest", g.act(kind, 2, 0, 0), 3);
            if (hasTwo) {
                due("KIND " + kind + ", b the youngest", g.act(kind, 0, 3, 0), 4);
            }
        }
    }

    /** "(b, c of 2 may be NONE)" */
    private static void partsOfWhenMayBeNone() {
        GardenRules g = new GardenRules();
        yes(g);
        due("WHEN of NONE and NONE, when there is no ACT", when(g, 0, NONE, NONE), 0);
        due("WHEN of 0 and NONE", when(g, 0, 0, NONE), 1);
        due("WHEN of NONE and 1", when(g, 0, NONE, 1), 2);
        due("WHEN of 2 and 0", when(g, 0, 2, 0), 3);
        for (int x : new int[] {-2, 4, 40, LEAST, GREATEST}) {
            due("WHEN of " + x + " and NONE", when(g, 0, x, NONE), UNKNOWN);
            due("WHEN of NONE and " + x, when(g, 0, NONE, x), UNKNOWN);
        }
        due("count(1)", g.count(1), 4);
    }

    /** "b of 0 .. (0 .. 1000)" */
    private static void pouredIs0To1000() {
        GardenRules g = new GardenRules();
        for (int n : new int[] {-1, 1001, LEAST, GREATEST}) {
            due("POUR of " + n, pour(g, 0, n), OUTSIDE);
        }
        due("POUR of 0", pour(g, 0, 0), 0);
        due("POUR of 1000", pour(g, 0, 1000), 1);
    }

    /** "c of 1 (0 .. 1000)" */
    private static void movedIs0To1000() {
        GardenRules g = new GardenRules();
        for (int n : new int[] {-1, 1001, LEAST, GREATEST}) {
            due("MOVE of " + n, move(g, 0, 1, n), OUTSIDE);
        }
        due("MOVE of 0", move(g, 0, 1, 0), 0);
        due("MOVE of 1000", move(g, 0, 1, 1000), 1);
    }

    /** "ACT a is done b times (0 .. 9)" */
    private static void timesAre0To9() {
        GardenRules g = new GardenRules();
        pour(g, 0, 1);
        for (int n : new int[] {-1, 10, LEAST, GREATEST}) {
            due("TIMES " + n, times(g, 0, n), OUTSIDE);
        }
        due("TIMES 0", times(g, 0, 0), 1);
        due("TIMES 9", times(g, 0, 9), 2);
    }

    /** "ACT a WAITS for THE TIME as it is then, and b (0 .. 100)" */
    private static void laterIs0To100() {
        GardenRules g = new GardenRules();
        pour(g, 0, 1);
        for (int n : new int[] {-1, 101, LEAST, GREATEST}) {
            due("LATER by " + n, later(g, 0, n), OUTSIDE);
        }
        due("LATER by 0", later(g, 0, 0), 1);
        due("LATER by 100", later(g, 0, 100), 2);
    }

    /** "(Order as in rule().)": what a KIND has not is not looked at. */
    private static void whatAKindHasNotIsNotLookedAt() {
        for (int odd : new int[] {LEAST, -2, -1, 6, 8, 40, 101, 1001, GREATEST}) {
            GardenRules g = new GardenRules();
            due("LAST, any a, b and c", g.act(7, odd, odd, odd), 0);
            due("POUR, any c", g.act(0, 0, 1, odd), 1);
            due("THEN, any c", g.act(3, 0, 0, odd), 2);
            due("TIMES, any c", g.act(4, 0, 1, odd), 3);
            due("LATER, any c", g.act(5, 0, 1, odd), 4);
            due("TRY, any c", g.act(6, 0, 0, odd), 5);
            due("SHOW, any c", g.act(8, 0, 0, odd), 6);
        }
    }

    // ---- running

    private static void runActsAreKnown() {
        GardenRules g = new GardenRules();
        due("run(0), when there is none", g.run(0), UNKNOWN);
        pour(g, 0, 1);
        pour(g, 0, 2);
        due("run(1)", g.run(1), 1);
        for (int x : new int[] {NONE, 2, 39, 40, LEAST, GREATEST}) {
            due("run(" + x + ")", g.run(x), UNKNOWN);
        }
        due("amount()", g.amount(), 2);
        due("count(6)", g.count(6), 1);
        tanks("after unknown ones", g, 98);
    }

    /** "0: .. there was none." */
    private static void amountIs0AtFirst() {
        GardenRules g = new GardenRules();
        due("amount() at first", g.amount(), 0);
        g.run(0);
        yes(g);
        g.ask(0);
        due("amount() after ask() and a refused run()", g.amount(), 0);
    }

    /** "The amount of the latest run() that was not refused; 0: it FAILED" */
    private static void amountIsOfTheLatestRunThatWasNotRefused() {
        GardenRules g = new GardenRules();
        int seven = pour(g, 0, 7), dry = dry(g), later = later(g, seven, 1);
        g.run(seven);
        g.run(3);
        due("amount() after a refused run()", g.amount(), 7);
        g.run(dry);
        due("amount() after one that FAILED", g.amount(), 0);
        g.run(seven);
        yes(g);
        g.ask(0);
        due("amount() after ask()", g.amount(), 7);
        g.run(later);
        due("amount() of LATER", g.amount(), 0);
        g.tick(1);
        due("amount() after a TICK", g.amount(), 0);
        g.run(seven);
        due("amount() of the latest", g.amount(), 7);
    }

    /** "POUR: b (as told) goes out of TANK a: b; DRY, if it has not so much (nothing goes then)." */
    private static void pourUpToAllThatThereIs() {
        for (int t = 0; t <= 5; t++) {
            GardenRules g = new GardenRules();
            pour(g, t, 50);
            g.fill(t, 49);
            comesTo("POUR of 50, it has 49", g, 0, DRY, 0, 1);
            due("tank(" + t + "), nothing goes", g.tank(t), 49);
            g.fill(t, 51);
            comesTo("POUR of 50, it has 51", g, 0, 1, 50, 1);
            due("tank(" + t + "), 1 is left", g.tank(t), 1);
            g.fill(t, 50);
            comesTo("POUR of 50, it has 50", g, 0, 1, 50, 1);
            due("tank(" + t + "), nothing is left", g.tank(t), 0);
            comesTo("POUR of 50, it is empty", g, 0, DRY, 0, 1);
        }
        GardenRules g = new GardenRules();
        pour(g, 0, 1000);
        g.fill(0, 1000);
        comesTo("POUR of 1000, it has 1000", g, 0, 1, 1000, 1);
        tanks("then", g, 0, 100);
    }

    private static void pourOfNothing() {
        GardenRules g = new GardenRules();
        pour(g, 0, 0);
        g.fill(0, 0);
        comesTo("POUR of 0, it is empty", g, 0, 1, 0, 1);
        tanks("then", g, 0, 100);
    }

    /** "MOVE: TANK a gives c to TANK b; DRY likewise: c." */
    private static void moveUpToAllThatThereIs() {
        GardenRules g = new GardenRules();
        move(g, 0, 5, 100);
        move(g, 0, 5, 0);
        g.fill(0, 99);
        comesTo("MOVE of 100, it has 99", g, 0, DRY, 0, 1);
        tanks("then", g, 99, 100, 100, 100, 100, 100);
        g.fill(0, 101);
        comesTo("MOVE of 100, it has 101", g, 0, 1, 100, 1);
        tanks("then", g, 1, 100, 100, 100, 100, 200);
        g.fill(0, 100);
        comesTo("MOVE of 100, it has 100", g, 0, 1, 100, 1);
        tanks("then", g, 0, 100, 100, 100, 100, 300);
        comesTo("MOVE of 0, it is empty", g, 1, 1, 0, 1);
        tanks("then", g, 0, 100, 100, 100, 100, 300);
    }

    private static void moveToItself() {
        GardenRules g = new GardenRules();
        move(g, 2, 2, 100);
        move(g, 2, 2, 101);
        comesTo("MOVE of 100 to itself", g, 0, 1, 100, 1);
        comesTo("MOVE of 101 to itself", g, 1, DRY, 0, 1);
        tanks("then", g, 100, 100, 100, 100);
    }

    private static void moveBeyondWhatCanBeFilled() {
        GardenRules g = new GardenRules();
        move(g, 0, 1, 1);
        pour(g, 1, 1);
        g.fill(1, 1000000);
        comesTo("MOVE to a TANK of a million", g, 0, 1, 1, 1);
        tanks("then", g, 99, 1000001);
        comesTo("POUR of it", g, 1, 1, 1, 1);
        tanks("then", g, 99, 1000000);
    }

    /** "WHEN: RULE a is asked; if yes, ACT b, else ACT c (NONE of them: 0)." */
    private static void whenOfNone() {
        GardenRules g = new GardenRules();
        int yes = yes(g), no = no(g), three = pour(g, 0, 3), four = pour(g, 0, 4);
        comesTo("WHEN yes, both", g, when(g, yes, three, four), 1, 3, 3);
        comesTo("WHEN no, both", g, when(g, no, three, four), 1, 4, 3);
        comesTo("WHEN yes, NONE", g, when(g, yes, NONE, four), 1, 0, 2);
        comesTo("WHEN no, NONE", g, when(g, no, three, NONE), 1, 0, 2);
        comesTo("WHEN yes, else NONE", g, when(g, yes, three, NONE), 1, 3, 3);
        comesTo("WHEN no, else 4", g, when(g, no, NONE, four), 1, 4, 3);
        tanks("then", g, 100 - 3 - 4 - 3 - 4);
    }

    private static void whenItsRuleFails() {
        GardenRules g = new GardenRules();
        int zero = zero(g), index = index(g), pour = pour(g, 0, 1);
        comesTo("WHEN of ZERO", g, when(g, zero, pour, pour), ZERO, 0, 2);
        comesTo("WHEN of INDEX", g, when(g, index, pour, pour), INDEX, 0, 2);
        tanks("then", g, 100);
    }

    /** "THEN: ACT a, ACT b: both amounts together." */
    private static void thenStopsAtTheFirstThatFails() {
        GardenRules g = new GardenRules();
        int one = pour(g, 0, 1), two = pour(g, 1, 2), dry = dry(g);
        comesTo("THEN", g, then(g, one, two), 1, 3, 3);
        comesTo("THEN, a FAILS", g, then(g, dry, one), DRY, 0, 2);
        tanks("then", g, 99, 98);
        comesTo("THEN, b FAILS", g, then(g, one, dry), DRY, 0, 3);
        tanks("then", g, 98, 98);
    }

    private static void timesNone() {
        GardenRules g = new GardenRules();
        comesTo("TIMES 0 of one that would FAIL", g, times(g, dry(g), 0), 1, 0, 1);
    }

    private static void timesNine() {
        GardenRules g = new GardenRules();
        comesTo("TIMES 9", g, times(g, pour(g, 0, 11), 9), 1, 99, 10);
        tanks("then", g, 1);
    }

    private static void timesStopsAtTheFirstThatFails() {
        GardenRules g = new GardenRules();
        int nine = times(g, pour(g, 0, 12), 9);
        comesTo("TIMES 9, the ninth FAILS", g, nine, DRY, 0, 10);
        tanks("then", g, 4);
        comesTo("TIMES 9, the first FAILS", g, nine, DRY, 0, 2);
        tanks("then", g, 4);
    }

    /** "TRY: ACT a; if it FAILS (but by DEEP), .. ACT b is done in its stead." */
    private static void tryTakesEachFailureButDeep() {
        GardenRules g = new GardenRules();
        int missing = last(g), pour = pour(g, 0, 1), dry = dry(g);
        int zero = when(g, zero(g), NONE, NONE), index = when(g, index(g), NONE, NONE);
        comesTo("TRY of ZERO", g, tries(g, zero, pour), 1, 1, 4);
        comesTo("TRY of INDEX", g, tries(g, index, pour), 1, 1, 4);
        comesTo("TRY of DRY", g, tries(g, dry, pour), 1, 1, 3);
        comesTo("TRY of NONE", g, tries(g, missing, pour), 1, 1, 4);
        tanks("then", g, 96);
    }

    /** "TANKS have what they had ahead of it" */
    private static void tryGivesAllTanksBack() {
        GardenRules g = new GardenRules();
        int[] before = {0, 11, 22, 33, 44, 1000000};
        for (int t = 0; t <= 5; t++) {
            g.fill(t, before[t]);
        }
        move(g, 5, 0, 1000);
        for (int t = 1; t <= 5; t++) {
            then(g, t == 1 ? 0 : g.count(1) - 1, pour(g, t, 10));
        }
        int all = g.count(1) - 1;
        int fails = then(g, all, pour(g, 1, 1000));
        int nothing = pour(g, 1, 0);
        comesTo("TRY of MOVE, five POURS and DRY", g, tries(g, fails, nothing), 1, 0, 15);
        tanks("then", g, before);
        comesTo("without TRY", g, fails, DRY, 0, 13);
        tanks("then", g, 1000, 1, 12, 23, 34, 998990);
    }

    private static void tryOfWhatIsDone() {
        GardenRules g = new GardenRules();
        int one = pour(g, 0, 1), two = pour(g, 1, 2);
        comesTo("TRY of what is done", g, tries(g, one, two), 1, 1, 2);
        tanks("then", g, 99, 100);
    }

    private static void tryWhoseSecondFails() {
        GardenRules g = new GardenRules();
        int one = pour(g, 0, 1), dry = dry(g), missing = then(g, one, when(g, zero(g), NONE, NONE));
        int fails = then(g, one, dry);
        comesTo("TRY, both FAIL", g, tries(g, fails, missing), ZERO, 0, 8);
        tanks("then, what b did stays done", g, 99);
    }

    /** TANKS alone are given back: SENSORS, what WAITS and what OFTEN counted stay. */
    private static void tryGivesBackNothingElse() {
        GardenRules g = new GardenRules();
        int often = often(g, yes(g), 2);
        int shows = shows(g, 7, 0), later = later(g, shows, 9), asks = when(g, often, NONE, NONE);
        int all = then(g, then(g, then(g, shows, later), asks), dry(g));
        int nothing = pour(g, 0, 0);
        comesTo("TRY", g, tries(g, all, nothing), 1, 0, 11);
        due("shown(7)", g.shown(7), 100);
        due("count(2)", g.count(2), 1);
        due("OFTEN 2, the second time", g.ask(often), 1);
    }

    private static void triesWithinTries() {
        GardenRules g = new GardenRules();
        int one = pour(g, 0, 1), dry = dry(g), two = pour(g, 1, 2), three = pour(g, 2, 3);
        int inner = tries(g, then(g, one, dry), two);
        int outer = tries(g, then(g, then(g, one, inner), dry), three);
        comesTo("TRY within", g, inner, 1, 2, 5);
        tanks("then", g, 100, 98, 100);
        comesTo("TRY around", g, outer, 1, 3, 11);
        tanks("then, as ahead of the one around", g, 100, 98, 97);
        int inSecond = tries(g, dry, then(g, one, inner));
        comesTo("TRY in the stead", g, inSecond, 1, 3, 9);
        tanks("then, as ahead of the one within", g, 99, 96, 97);
    }

    /** Each TRY gives back what TANKS had ahead of its own ACT a, though one within it kept younger ones since. */
    private static void triesWithinTriesThatFail() {
        GardenRules g = new GardenRules();
        int sixty = pour(g, 0, 60), dry = dry(g), nothing = pour(g, 1, 0);
        int inner = tries(g, sixty, dry);
        int thenInner = then(g, sixty, inner);
        comesTo("TRY of POUR and TRY", g, tries(g, thenInner, nothing), 1, 0, 7);
        tanks("then", g, 100, 100);
        comesTo("TRY of TIMES of TRY", g, tries(g, times(g, inner, 9), nothing), 1, 0, 8);
        tanks("then", g, 100, 100);
        comesTo("without TRY around", g, thenInner, DRY, 0, 5);
        tanks("then", g, 40, 100);
    }

    private static void tryAsPartOfEachKind() {
        GardenRules g = new GardenRules();
        int yes = yes(g), no = no(g), one = pour(g, 1, 1), nothing = pour(g, 0, 0), dry = dry(g);
        int fails = then(g, pour(g, 0, 60), dry);
        int tries = tries(g, fails, one), last = last(g);
        comesTo("LAST of TRY", g, last, 1, 1, 6);
        comesTo("WHEN of TRY, b", g, when(g, yes, tries, NONE), 1, 1, 7);
        comesTo("WHEN of TRY, c", g, when(g, no, NONE, tries), 1, 1, 7);
        comesTo("THEN of TRY, a", g, then(g, tries, nothing), 1, 1, 7);
        comesTo("THEN of TRY, b", g, then(g, nothing, tries), 1, 1, 7);
        comesTo("TIMES of TRY", g, times(g, tries, 9), 1, 9, 46);
        comesTo("TRY of TRY, a", g, tries(g, tries, nothing), 1, 1, 6);
        comesTo("TRY of TRY, b", g, tries(g, dry, tries), 1, 1, 7);
        g.run(later(g, tries, 1));
        due("tick(1), TRY that WAITED", g.tick(1), 1);
        tanks("then", g, 100, 100 - 17);
    }

    /** "(if there was none: one that is missing begins, and is NONE, the FAILURE)" */
    private static void lastOfNone() {
        GardenRules g = new GardenRules();
        g.act(9, 0, 0, 0);
        pour(g, 0, 1001);
        int last = last(g);
        comesTo("LAST of none", g, last, MISSING, 0, 2);
        due("count(6)", g.count(6), 2);
        pour(g, 0, 1);
        comesTo("LAST of none, though one was told since", g, last, MISSING, 0, 2);
        tanks("then", g, 100);
    }

    /** "LAST: the ACT that was told latest when this one was told, done anew each time" */
    private static void lastIsTheOneBefore() {
        GardenRules g = new GardenRules();
        pour(g, 0, 1);
        pour(g, 0, 40);
        pour(g, 6, 1);
        int last = last(g);
        int ofLast = last(g);
        pour(g, 0, 3);
        comesTo("LAST", g, last, 1, 40, 2);
        comesTo("LAST of LAST", g, ofLast, 1, 40, 3);
        comesTo("LAST, DRY by now", g, last, DRY, 0, 2);
        tanks("then", g, 20);
    }

    /** "SHOW: SENSOR a shows what TANK b has: that." */
    private static void showIsWhatTheTankHas() {
        GardenRules g = new GardenRules();
        int first = shows(g, 0, 5), seventh = shows(g, 7, 0), more = move(g, 1, 0, 100);
        g.fill(5, 0);
        g.show(0, 9);
        comesTo("SHOW of an empty TANK", g, first, 1, 0, 1);
        due("shown(0)", g.shown(0), 0);
        g.fill(0, 1000000);
        g.run(more);
        comesTo("SHOW of more than can be filled", g, seventh, 1, 1000100, 1);
        due("shown(7)", g.shown(7), 1000100);
        tanks("then", g, 1000100);
        due("show(7, 1), what it showed", g.show(7, 1), 1000100);
    }

    /** TANK 1 has n, far more than can be filled; ACT 4 SHOWS it, ACT 7 does so 243 times. */
    private static GardenRules withAGreatTank(int n) {
        GardenRules g = new GardenRules();
        times(g, times(g, times(g, move(g, 0, 1, 1000), 9), 9), 3);
        g.fill(1, n - 33 * 243000);
        for (int i = 0; i < 33; i++) {
            g.fill(0, 1000000);
            g.run(3);
        }
        times(g, times(g, times(g, shows(g, 0, 1), 9), 9), 3);
        return g;
    }

    /** "an amount (an int, that wraps)": the greatest int is still one, and 1 more is the least. */
    private static void amountsWrap() {
        GardenRules g = withAGreatTank(8837381);
        tanks("a great one", g, 757000, 8837381);
        comesTo("243 SHOWS", g, 7, 1, 243 * 8837381, 274);
        comesTo("as great as can be", g, then(g, 7, pour(g, 2, 64)), 1, GREATEST, 276);
        comesTo("one more", g, then(g, 7, pour(g, 3, 65)), 1, LEAST, 276);
        g.fill(3, 65);
        comesTo("one more, told ahead", g, then(g, 10, 7), 1, LEAST, 276);
    }

    private static void amountsWrapWithinTimes() {
        GardenRules g = withAGreatTank(8837382);
        comesTo("243 SHOWS, beyond an int", g, 7, 1, (int) (243L * 8837382), 274);
        due("that is below 0", (int) (243L * 8837382), -2147483470);
    }

    /** "or FAILS (what it did by then stays done, but as told)" */
    private static void whatWasDoneAheadStaysDone() {
        GardenRules g = new GardenRules();
        int often = often(g, yes(g), 2);
        int pour = pour(g, 0, 1), move = move(g, 1, 2, 5), shows = shows(g, 7, 0), later = later(g, pour, 1);
        int asks = when(g, often, NONE, NONE);
        int all = then(g, then(g, then(g, then(g, pour, move), shows), later), asks);
        comesTo("done, and then DRY", g, then(g, all, dry(g)), DRY, 0, 13);
        tanks("then", g, 99, 95, 105, 100, 100, 100);
        due("shown(7)", g.shown(7), 99);
        due("count(2)", g.count(2), 1);
        due("OFTEN 2, the second time", g.ask(often), 1);
        due("tick(1)", g.tick(1), 1);
    }
}
