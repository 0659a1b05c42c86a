/** The edges that "Terms" and promises 11 and 12 name: what WAITS, TICKS, and what FAILED in them. */
public final class EdgesOfWaitingTest extends Told {
    public static void main(String[] args) {
        ticksAre1To50();
        tickIs0WhenNoneIsDone();
        timeGrowsAheadOfWhatIsDone();
        laterBy0OutsideOfTicks();
        laterBy0WithinATick();
        laterBy1And100();
        timeAsItIsThen();
        waitsOnlyOnce();
        inTheOrderInWhichTheyCame();
        thoseThatComeMeanwhile();
        sixtyWait();
        theLostOneIsTheSixtyFirst();
        whatStaysTakesRoom();
        oneThatIsDoneLeavesItsRoom();
        aHundredAreDone();
        theHundredAndFirstStays();
        thoseThatFailAreOfTheHundred();
        eachTickHasItsOwnHundred();
        failuresAreKeptWithActKindAndTime();
        whatATryTakesIsNotKept();
        doneOnesAreNotKept();
        askAndRunKeepNone();
        thirtyFailuresAreKept();
        failedIsNoneBeyondThem();
        failedIsOutsideByWhat();
        DUE.end();
    }

    /** "n TICKS (1 .. 50)" */
    private static void ticksAre1To50() {
        GardenRules g = new GardenRules();
        for (int n : new int[] {0, -1, 51, LEAST, GREATEST}) {
            due("tick(" + n + ")", g.tick(n), OUTSIDE);
            due("count(3) after it", g.count(3), 0);
        }
        due("tick(1)", g.tick(1), 0);
        due("count(3)", g.count(3), 1);
        due("tick(50)", g.tick(50), 0);
        due("count(3)", g.count(3), 51);
    }

    private static void tickIs0WhenNoneIsDone() {
        GardenRules g = new GardenRules();
        int later = later(g, pour(g, 0, 1), 2);
        due("tick(50), none WAITS", g.tick(50), 0);
        g.run(later);
        due("tick(1), one WAITS for the next", g.tick(1), 0);
        due("tick(1)", g.tick(1), 1);
        due("tick(1), none is left", g.tick(1), 0);
    }

    /** "THE TIME grows by 1; then those that WAIT for it are done": what FAILS at once in the first TICK has time 1. */
    private static void timeGrowsAheadOfWhatIsDone() {
        GardenRules g = new GardenRules();
        g.run(later(g, dry(g), 1));
        g.tick(1);
        due("failed(0, 2)", g.failed(0, 2), 1);
    }

    private static void laterBy0OutsideOfTicks() {
        GardenRules g = new GardenRules();
        int now = later(g, pour(g, 0, 1), 0);
        comesTo("LATER by 0", g, now, 1, 0, 1);
        due("count(2)", g.count(2), 1);
        due("tick(50), its time is over", g.tick(50), 0);
        due("count(2), it stays", g.count(2), 1);
        tanks("then", g, 100);
    }

    /** "(also those that come to WAIT for it meanwhile)" */
    private static void laterBy0WithinATick() {
        GardenRules g = new GardenRules();
        int now = later(g, pour(g, 0, 1), 0);
        int nowOfNow = later(g, now, 0);
        g.run(later(g, nowOfNow, 1));
        due("tick(1), three by one", g.tick(1), 3);
        tanks("then", g, 99);
        due("count(2)", g.count(2), 0);
    }

    private static void laterBy1And100() {
        GardenRules g = new GardenRules();
        int pour = pour(g, 0, 1);
        g.run(later(g, pour, 1));
        g.run(later(g, pour, 100));
        due("tick(1)", g.tick(1), 1);
        due("tick(50)", g.tick(50), 0);
        due("tick(48), until 99", g.tick(48), 0);
        due("tick(1), the 100th", g.tick(1), 1);
        tanks("then", g, 98);
        due("tick(50)", g.tick(50), 0);
    }

    /** "THE TIME as it is then": when the LATER is done, not when it is told. */
    private static void timeAsItIsThen() {
        GardenRules g = new GardenRules();
        int inner = later(g, pour(g, 0, 1), 2), outer = later(g, inner, 3);
        g.tick(7);
        g.run(outer);
        due("tick(2)", g.tick(2), 0);
        due("tick(1), the one within WAITS now", g.tick(1), 1);
        due("tick(1)", g.tick(1), 0);
        tanks("then", g, 100);
        due("tick(1)", g.tick(1), 1);
        tanks("then", g, 99);
    }

    private static void waitsOnlyOnce() {
        GardenRules g = new GardenRules();
        g.run(times(g, later(g, pour(g, 0, 1), 1), 2));
        due("count(2), the same ACT twice", g.count(2), 2);
        due("tick(1)", g.tick(1), 2);
        due("tick(50), not again", g.tick(50), 0);
        tanks("then", g, 98);
    }

    /** ACTS 0 .. 2 let SENSOR 0 show 1, 2, 3: it tells which was done last. */
    private static GardenRules withThreeShows() {
        GardenRules g = new GardenRules();
        for (int t = 1; t <= 3; t++) {
            g.fill(t, t);
            shows(g, 0, t);
        }
        return g;
    }

    /** "in the order in which they came to WAIT" */
    private static void inTheOrderInWhichTheyCame() {
        int[][] orders = {{0, 1, 2}, {0, 2, 1}, {1, 0, 2}, {1, 2, 0}, {2, 0, 1}, {2, 1, 0}};
        for (int[] order : orders) {
            GardenRules g = withThreeShows();
            for (int i = 0; i < 3; i++) {
                g.run(later(g, order[i], 3 - i));
                if (i < 2) {
                    due("tick(1) ahead of it", g.tick(1), 0);
                }
            }
            due("tick(1)", g.tick(1), 3);
            due("shown(0), the last that came", g.shown(0), order[2] + 1);
        }
    }

    /** Those that come meanwhile are behind those that were there. */
    private static void thoseThatComeMeanwhile() {
        GardenRules g = withThreeShows();
        int now = later(g, 2, 0), first = later(g, now, 1), second = later(g, 0, 1);
        g.run(first);
        g.run(second);
        due("tick(1)", g.tick(1), 3);
        due("shown(0), the one that came meanwhile", g.shown(0), 3);
    }

    /** "60 ACTS WAIT at most (one more is lost)." */
    private static void sixtyWait() {
        GardenRules g = new GardenRules();
        int later = later(g, pour(g, 0, 1), 1);
        for (int i = 1; i <= 62; i++) {
            comesTo("LATER " + i, g, later, 1, 0, 1);
            due("count(2) of " + i, g.count(2), Math.min(i, 60));
        }
        due("tick(1)", g.tick(1), 60);
        tanks("then", g, 40);
        due("count(2)", g.count(2), 0);
        g.run(later);
        due("count(2), there is room again", g.count(2), 1);
        due("tick(50), the lost ones are lost", g.tick(50), 1);
    }

    private static void theLostOneIsTheSixtyFirst() {
        GardenRules g = new GardenRules();
        int often = later(g, pour(g, 0, 1), 1), first = later(g, pour(g, 1, 1), 1), lost = later(g, pour(g, 2, 1), 1);
        g.run(first);
        runTimes(g, often, 59);
        g.run(lost);
        due("tick(1)", g.tick(1), 60);
        tanks("then", g, 41, 99, 100);
    }

    /** Those whose time is over stay, and are of the 60. */
    private static void whatStaysTakesRoom() {
        GardenRules g = new GardenRules();
        int pour = pour(g, 0, 1), never = later(g, pour, 0), later = later(g, pour, 1);
        runTimes(g, never, 59);
        g.tick(1);
        due("count(2)", g.count(2), 59);
        g.run(later);
        g.run(later);
        due("count(2), full", g.count(2), 60);
        due("tick(1), one had room", g.tick(1), 1);
        due("count(2)", g.count(2), 59);
    }

    /** One that is done WAITS no more: of two that it lets WAIT one has room. */
    private static void oneThatIsDoneLeavesItsRoom() {
        GardenRules g = new GardenRules();
        int far = later(g, pour(g, 0, 1), 100);
        g.run(later(g, then(g, far, far), 1));
        runTimes(g, far, 59);
        due("count(2)", g.count(2), 60);
        due("tick(1)", g.tick(1), 1);
        due("count(2), one of the two", g.count(2), 60);
        due("tick(50)", g.tick(50), 0);
        due("tick(49), until 100", g.tick(49), 59);
        due("tick(1), the one that had room", g.tick(1), 1);
    }

    /** Of 60 that WAIT for time 1, so many let one more WAIT for it; the others pour 1 of TANK 0, as the more do. */
    private static GardenRules withMoreMeanwhile(int more) {
        GardenRules g = new GardenRules();
        int pour = pour(g, 0, 1), now = later(g, pour, 0);
        runTimes(g, later(g, now, 1), more);
        runTimes(g, later(g, pour, 1), 60 - more);
        return g;
    }

    /** "100 at most in one TICK" */
    private static void aHundredAreDone() {
        GardenRules g = withMoreMeanwhile(39);
        due("tick(1) of 99", g.tick(1), 99);
        due("count(2)", g.count(2), 0);
        tanks("then", g, 40);
        g = withMoreMeanwhile(40);
        due("tick(1) of 100", g.tick(1), 100);
        due("count(2)", g.count(2), 0);
        tanks("then", g, 40);
    }

    /** "(the others stay, and are never done)" */
    private static void theHundredAndFirstStays() {
        GardenRules g = withMoreMeanwhile(41);
        due("tick(1) of 101", g.tick(1), 100);
        due("count(2), one stays", g.count(2), 1);
        tanks("then", g, 41);
        due("tick(50)", g.tick(50), 0);
        due("count(2), it stays", g.count(2), 1);
        tanks("then", g, 41);
        g = withMoreMeanwhile(60);
        due("tick(2) of 120", g.tick(2), 100);
        due("count(2), twenty stay", g.count(2), 20);
        tanks("then", g, 60);
    }

    /** "how many ACTS that WAITED were done in them, those that FAILED, too" */
    private static void thoseThatFailAreOfTheHundred() {
        GardenRules g = withMoreMeanwhile(41);
        g.fill(0, 30);
        due("tick(1) of 101, some FAIL", g.tick(1), 100);
        due("count(2)", g.count(2), 1);
        due("count(4), 59 pour and 30 had enough", g.count(4), 29);
        tanks("then", g, 0);
    }

    private static void eachTickHasItsOwnHundred() {
        GardenRules g = new GardenRules();
        int next = later(g, pour(g, 0, 1), 1);
        runTimes(g, later(g, next, 1), 60);
        due("tick(2), 60 in each", g.tick(2), 120);
        tanks("then", g, 40);
    }

    /** "what FAILS so is kept: the ACT, the FAILURE, THE TIME": the ACT that WAITED, not its part. */
    private static void failuresAreKeptWithActKindAndTime() {
        GardenRules g = new GardenRules();
        int missing = last(g), dry = dry(g), zero = when(g, zero(g), NONE, NONE), index = when(g, index(g), NONE, NONE);
        int nine = times(g, pour(g, 0, 0), 9), deep = times(g, times(g, nine, 9), 9), part = then(g, dry, missing);
        int[] fails = {zero, index, dry, missing, deep, part};
        int[] kinds = {1, 2, 3, 4, 5, 3};
        for (int i = 0; i < fails.length; i++) {
            g.run(later(g, fails[i], 2 * i + 1));
        }
        due("tick(11)", g.tick(11), 6);
        due("count(4)", g.count(4), 6);
        for (int i = 0; i < fails.length; i++) {
            due("failed(" + i + ", 0)", g.failed(i, 0), fails[i]);
            due("failed(" + i + ", 1)", g.failed(i, 1), kinds[i]);
            due("failed(" + i + ", 2)", g.failed(i, 2), 2 * i + 1);
        }
    }

    private static void whatATryTakesIsNotKept() {
        GardenRules g = new GardenRules();
        int tries = tries(g, dry(g), pour(g, 0, 1));
        g.run(later(g, tries, 1));
        due("tick(1)", g.tick(1), 1);
        due("count(4)", g.count(4), 0);
        tanks("then", g, 99);
    }

    private static void doneOnesAreNotKept() {
        GardenRules g = new GardenRules();
        int later = later(g, pour(g, 0, 60), 1);
        g.run(later);
        g.run(later);
        due("tick(1), one is done and one FAILS", g.tick(1), 2);
        due("count(4)", g.count(4), 1);
        due("failed(0, 1)", g.failed(0, 1), 3);
    }

    private static void askAndRunKeepNone() {
        GardenRules g = new GardenRules();
        zero(g);
        g.ask(0);
        g.run(dry(g));
        due("count(4)", g.count(4), 0);
        due("failed(0, 0)", g.failed(0, 0), NONE);
    }

    /** "(30 at most)" */
    private static void thirtyFailuresAreKept() {
        GardenRules g = new GardenRules();
        int dry = dry(g), missing = then(g, dry, dry);
        int later = later(g, dry, 1), another = later(g, missing, 1);
        for (int i = 1; i <= 29; i++) {
            g.run(later);
        }
        due("tick(1)", g.tick(1), 29);
        due("count(4), 29", g.count(4), 29);
        due("failed(29, 0)", g.failed(29, 0), NONE);
        g.run(another);
        due("tick(1)", g.tick(1), 1);
        due("count(4), 30", g.count(4), 30);
        g.run(later);
        due("tick(1)", g.tick(1), 1);
        due("count(4), 30 still", g.count(4), 30);
        due("failed(0, 2), the first is kept", g.failed(0, 2), 1);
        due("failed(28, 2)", g.failed(28, 2), 1);
        due("failed(29, 0), the 30th", g.failed(29, 0), missing);
        due("failed(29, 1)", g.failed(29, 1), 3);
        due("failed(29, 2)", g.failed(29, 2), 2);
        due("failed(30, 0), no 31st", g.failed(30, 0), NONE);
    }

    /** "i from 0 .. NONE: there is none such." */
    private static void failedIsNoneBeyondThem() {
        GardenRules g = new GardenRules();
        for (int what = 0; what <= 2; what++) {
            due("failed(0, " + what + ") at first", g.failed(0, what), NONE);
        }
        g.run(later(g, dry(g), 1));
        g.tick(1);
        for (int what = 0; what <= 2; what++) {
            due("failed(0, " + what + ")", g.failed(0, what), new int[] {0, 3, 1}[what]);
            for (int i : new int[] {-1, 1, 29, 30, LEAST, GREATEST}) {
                due("failed(" + i + ", " + what + ")", g.failed(i, what), NONE);
            }
        }
    }

    /** "OUTSIDE: what." */
    private static void failedIsOutsideByWhat() {
        GardenRules g = new GardenRules();
        g.run(later(g, dry(g), 1));
        g.tick(1);
        for (int what : new int[] {-1, 3, LEAST, GREATEST}) {
            for (int i : new int[] {-1, 0, 1, 30, LEAST, GREATEST}) {
                due("failed(" + i + ", " + what + ")", g.failed(i, what), OUTSIDE);
            }
        }
    }
}
