/** "DEEP: a 301st RULE would be asked, or ACT begun, parts too, in one ask(), run(), or by one that WAITED." */
public final class EdgesOfDeepTest extends Told {
    public static void main(String[] args) {
        threeHundredRulesInOneAsk();
        the301stRuleOfEachKind();
        threeHundredActsInOneRun();
        the301stActOfEachKind();
        the301stIsARuleOfWhen();
        the301stIsAnActOfWhen();
        threeHundredByOneThatWaited();
        eachThatWaitedHasItsOwn();
        eachAskAndRunHasItsOwn();
        whatWaitsIsNotOfIt();
        noElseTakesDeep();
        noTryTakesDeep();
        deepOnesAreNotCounted();
        whatDeepDidStaysDone();
        theMissingOneAsThe300thAndThe301st();
        DUE.end();
    }

    private static void threeHundredRulesInOneAsk() {
        GardenRules g = new GardenRules();
        doublingRules(g);
        int no299 = either(g, no295(g), 1), yes300 = not(g, no299), no301 = not(g, yes300);
        saysSo("299 asked", g, no299, 0, 299);
        saysSo("300 asked", g, yes300, 1, 300);
        saysSo("301 would be asked", g, no301, DEEP, 300);
    }

    /** The last part of each KIND once as the 300th and once as the 301st. */
    private static void the301stRuleOfEachKind() {
        GardenRules g = new GardenRules();
        doublingRules(g);
        int no295 = no295(g), yes296 = not(g, no295), no297 = not(g, yes296), yes298 = not(g, no297);
        int no299 = not(g, yes298), yes300 = not(g, no299);
        int yes = yes(g), zero = zero(g), index = index(g);
        int no298 = elses(g, no297, yes), yes299 = not(g, no298);
        saysSo("NOT, it is the 300th", g, yes300, 1, 300);
        saysSo("NOT, it has the 301st", g, not(g, yes300), DEEP, 300);
        saysSo("BOTH, b is the 300th", g, both(g, yes298, yes), 1, 300);
        saysSo("BOTH, b is the 301st", g, both(g, yes299, yes), DEEP, 300);
        saysSo("EITHER, b is the 300th", g, either(g, no298, yes), 1, 300);
        saysSo("EITHER, b is the 301st", g, either(g, no299, yes), DEEP, 300);
        saysSo("OFTEN of 299", g, often(g, yes299, 1), 1, 300);
        saysSo("OFTEN of 300", g, often(g, yes300, 1), DEEP, 300);
        int fails298 = both(g, yes296, zero), fails299 = not(g, fails298);
        saysSo("ELSE, b is the 300th", g, elses(g, fails298, yes), 1, 300);
        saysSo("ELSE, b is the 301st", g, elses(g, fails299, yes), DEEP, 300);
        saysSo("SHARE as the 300th", g, both(g, yes298, zero), ZERO, 300);
        saysSo("SHARE as the 301st", g, both(g, yes299, zero), DEEP, 300);
        saysSo("POINTED as the 300th", g, both(g, yes298, index), INDEX, 300);
        saysSo("POINTED as the 301st", g, both(g, yes299, index), DEEP, 300);
    }

    private static final int OF_296 = 5, OF_300 = 7;

    /** ACT 0 pours nothing; ACT 5 begins 296 in all, ACT 7 begins 300. */
    private static GardenRules withManyPours() {
        GardenRules g = new GardenRules();
        int nine = times(g, pour(g, 0, 0), 9);
        int of274 = times(g, times(g, nine, 9), 3), of21 = times(g, nine, 2);
        int of296 = then(g, of274, of21);
        then(g, of296, times(g, 0, 2));
        return g;
    }

    private static void threeHundredActsInOneRun() {
        GardenRules g = withManyPours();
        comesTo("296 begun", g, OF_296, 1, 0, 296);
        comesTo("300 begun", g, OF_300, 1, 0, 300);
        comesTo("301 would be begun", g, times(g, OF_300, 1), DEEP, 0, 300);
    }

    private static void the301stActOfEachKind() {
        GardenRules g = withManyPours();
        int of299 = then(g, OF_296, times(g, 0, 1));
        comesTo("299 begun", g, of299, 1, 0, 299);
        comesTo("THEN, b is the 301st", g, then(g, of299, 0), DEEP, 0, 300);
        comesTo("THEN, b is the 300th", g, then(g, then(g, OF_296, 0), 0), 1, 0, 300);
        comesTo("TIMES of 300", g, times(g, OF_300, 1), DEEP, 0, 300);
        comesTo("TIMES of 299", g, times(g, of299, 1), 1, 0, 300);
        last(g);
        comesTo("LAST of 300", g, g.count(1) - 1, DEEP, 0, 300);
        comesTo("TRY of 299", g, tries(g, of299, 0), 1, 0, 300);
        comesTo("TRY of 300", g, tries(g, OF_300, 0), DEEP, 0, 300);
        int fails298 = then(g, OF_296, dry(g));
        comesTo("DRY by 298", g, fails298, DRY, 0, 298);
        comesTo("TRY, b is the 300th", g, tries(g, fails298, 0), 1, 0, 300);
        int fails299 = times(g, fails298, 1);
        comesTo("TRY, b is the 301st", g, tries(g, fails299, 0), DEEP, 0, 300);
        int later = later(g, 0, 1), shows = shows(g, 0, 0), move = move(g, 0, 1, 0);
        for (int x : new int[] {0, later, shows, move}) {
            due("ACT " + x + " as the 301st", g.run(then(g, of299, x)), DEEP);
        }
        due("count(2), the 301st LATER did nothing", g.count(2), 0);
        due("shown(0), the 301st SHOW did nothing", g.shown(0), 0);
    }

    private static void the301stIsARuleOfWhen() {
        GardenRules g = withManyPours();
        int when = when(g, yes(g), NONE, NONE);
        int of297 = times(g, OF_296, 1), of298 = times(g, of297, 1);
        comesTo("WHEN, its RULE is the 300th", g, then(g, of297, when), 1, 0, 300);
        comesTo("WHEN, its RULE is the 301st", g, then(g, of298, when), DEEP, 0, 300);
    }

    private static void the301stIsAnActOfWhen() {
        GardenRules g = withManyPours();
        int yes = yes(g), no = no(g), of297 = times(g, OF_296, 1);
        comesTo("WHEN, its ACT is the 300th", g, then(g, OF_296, when(g, yes, 0, NONE)), 1, 0, 300);
        comesTo("WHEN, ACT b is the 301st", g, then(g, of297, when(g, yes, 0, NONE)), DEEP, 0, 300);
        comesTo("WHEN, ACT c is the 301st", g, then(g, of297, when(g, no, NONE, 0)), DEEP, 0, 300);
        comesTo("WHEN, NONE is begun", g, then(g, of297, when(g, no, 0, NONE)), 1, 0, 300);
    }

    private static void threeHundredByOneThatWaited() {
        GardenRules g = withManyPours();
        int of301 = times(g, OF_300, 1);
        g.run(later(g, OF_300, 1));
        g.run(later(g, of301, 2));
        due("tick(1), 300 by one that WAITED", g.tick(1), 1);
        due("count(4)", g.count(4), 0);
        due("count(6)", g.count(6), 302);
        due("tick(1), 301 by one that WAITED", g.tick(1), 1);
        due("count(4)", g.count(4), 1);
        due("failed(0, 0)", g.failed(0, 0), of301);
        due("failed(0, 1)", g.failed(0, 1), 5);
        due("count(6)", g.count(6), 602);
    }

    private static void eachThatWaitedHasItsOwn() {
        GardenRules g = withManyPours();
        runTimes(g, later(g, OF_300, 1), 3);
        due("tick(1), 300 by each of three", g.tick(1), 3);
        due("count(4)", g.count(4), 0);
        due("count(6)", g.count(6), 3 + 900);
    }

    private static void eachAskAndRunHasItsOwn() {
        GardenRules g = withManyPours();
        doublingRules(g);
        int of300 = not(g, either(g, no295(g), 1)), of301 = times(g, OF_300, 1);
        for (int i = 0; i < 2; i++) {
            comesTo("300 begun", g, OF_300, 1, 0, 300);
            saysSo("300 asked", g, of300, 1, 300);
            comesTo("301 would be begun", g, of301, DEEP, 0, 300);
        }
        due("count(6)", g.count(6), 6 * 300);
    }

    /** One that comes to WAIT is begun when its time comes, not by the LATER. */
    private static void whatWaitsIsNotOfIt() {
        GardenRules g = withManyPours();
        int later = later(g, OF_300, 1);
        comesTo("LATER of 300", g, later, 1, 0, 1);
        comesTo("LATER as the 300th", g, then(g, then(g, OF_296, 0), later), 1, 0, 300);
        due("tick(1)", g.tick(1), 2);
        due("count(4)", g.count(4), 0);
    }

    /** "what b says, if a FAILS (but by DEEP)" */
    private static void noElseTakesDeep() {
        GardenRules g = new GardenRules();
        doublingRules(g);
        int deep = not(g, not(g, either(g, no295(g), 1))), yes = yes(g);
        saysSo("ELSE of DEEP", g, elses(g, deep, yes), DEEP, 300);
        saysSo("ELSE of ELSE of DEEP", g, elses(g, elses(g, deep, yes), yes), DEEP, 300);
        saysSo("ELSE, b is DEEP", g, elses(g, zero(g), deep), DEEP, 300);
        saysSo("ELSE, b is DEEP and not asked", g, elses(g, yes, deep), 1, 2);
    }

    /** "if it FAILS (but by DEEP), TANKS have what they had ahead of it" */
    private static void noTryTakesDeep() {
        GardenRules g = withManyPours();
        int one = pour(g, 1, 1), deep = then(g, one, OF_300), two = pour(g, 2, 2);
        int around = tries(g, deep, two);
        comesTo("TRY of DEEP", g, around, DEEP, 0, 300);
        tanks("then, nothing is given back", g, 100, 99, 100);
        comesTo("TRY of TRY of DEEP", g, tries(g, around, two), DEEP, 0, 300);
        tanks("then", g, 100, 98, 100);
    }

    private static void deepOnesAreNotCounted() {
        GardenRules g = withManyPours();
        int of301 = times(g, OF_300, 1), muchMore = times(g, OF_300, 9);
        g.run(of301);
        due("count(6) after 301", g.count(6), 300);
        g.run(muchMore);
        due("count(5) after far more", g.count(5), 300);
        due("count(6) after far more", g.count(6), 600);
    }

    private static void whatDeepDidStaysDone() {
        GardenRules g = new GardenRules();
        g.fill(0, 1000000);
        int pours = times(g, times(g, times(g, pour(g, 0, 1), 9), 9), 9);
        int shows = shows(g, 7, 1), later = later(g, 0, 9), all = then(g, then(g, shows, later), pours);
        comesTo("DEEP", g, all, DEEP, 0, 300);
        due("shown(7)", g.shown(7), 100);
        due("count(2)", g.count(2), 1);
        // 4 are begun ahead, 1 TIMES; three of 91 in whole; 22 are left: 1 TIMES, two of 10 in whole, 1 TIMES.
        tanks("then", g, 1000000 - 3 * 81 - 2 * 9, 100);
    }

    private static void theMissingOneAsThe300thAndThe301st() {
        GardenRules g = new GardenRules();
        int last = last(g), nine = times(g, pour(g, 0, 0), 9);
        int of296 = then(g, times(g, times(g, nine, 9), 3), times(g, nine, 2));
        int of297 = times(g, of296, 1), of298 = times(g, of297, 1);
        comesTo("the missing one is the 300th", g, then(g, of297, last), MISSING, 0, 300);
        comesTo("the missing one is the 301st", g, then(g, of298, last), DEEP, 0, 300);
    }
}
