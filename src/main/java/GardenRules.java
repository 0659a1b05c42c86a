import java.util.Arrays;

/** A garden that is watered by rules and acts which are told one by one; DOC.md says what each call promises. */
public final class GardenRules {
    public static final int NONE = -1, UNKNOWN = -2, OUTSIDE = -3, FULL = -4;

    private static final int SENSORS = 8, TANKS = 6, FIRST_AMOUNT = 100, MOST_IN_TANK = 1000000;
    private static final int MOST_RULES = 40, MOST_ACTS = 40, MOST_WAITING = 60, MOST_FAILURES = 30;
    private static final int MOST_IN_ONE_WORK = 300, MOST_EVER = 20000;
    private static final int MOST_TICKS = 50, MOST_DONE_IN_TICK = 100;
    private static final int MOST_OFTEN = 100, MOST_POURED = 1000, MOST_TIMES = 9, MOST_LATER = 100;

    private static final int ABOVE = 0, NEAR = 1, OTHER = 2, SHARE = 3, POINTED = 4;
    private static final int NOT = 5, BOTH = 6, EITHER = 7, OFTEN = 8, ELSE = 9;

    private static final int POUR = 0, MOVE = 1, WHEN = 2, THEN = 3, TIMES = 4;
    private static final int LATER = 5, TRY = 6, LAST = 7, SHOW = 8;

    private static final int NO_FAILURE = 0, ZERO = 1, INDEX = 2, DRY = 3, MISSING = 4, DEEP = 5;
    private static final int FAILURE_BASE = -10;

    private final int[] sensors = new int[SENSORS];
    private final int[] tanks = new int[TANKS];
    // One row for each depth at which a TRY can stand, so that TRIES within a TRY keep their own.
    private final int[][] tanksAhead = new int[MOST_ACTS][TANKS];
    private final Rule[] rules = new Rule[MOST_RULES];
    private final Act[] acts = new Act[MOST_ACTS];
    private final Waiting waiting = new Waiting();
    private final Failures failures = new Failures();
    private int ruleCount;
    private int actCount;
    private int time;
    private int begun;
    private int begunLatest;
    private int begunEver;
    // While this is not NO_FAILURE, what says() and does() return has no meaning.
    private int failure;
    private int latestAmount;
    private int refusal;

    public GardenRules() {
        Arrays.fill(tanks, FIRST_AMOUNT);
    }

    public int show(int s, int v) {
        refusal = isSensor(s) ? 0 : UNKNOWN;
        if (refusal != 0) {
            return 0;
        }
        int before = sensors[s];
        sensors[s] = v;
        return before;
    }

    public int shown(int s) {
        refusal = isSensor(s) ? 0 : UNKNOWN;
        return reading(s);
    }

    public int fill(int t, int n) {
        if (!isTank(t)) {
            return UNKNOWN;
        }
        if (!isWithin(n, 0, MOST_IN_TANK)) {
            return OUTSIDE;
        }
        int before = tanks[t];
        tanks[t] = n;
        return before;
    }

    public int tank(int t) {
        return isTank(t) ? tanks[t] : UNKNOWN;
    }

    public int rule(int kind, int a, int b, int c) {
        if (!isWithin(kind, ABOVE, ELSE)) {
            return OUTSIDE;
        }
        if (!knowsPartsOfRule(kind, a, b)) {
            return UNKNOWN;
        }
        if (!hasNumbersOfRule(kind, b, c)) {
            return OUTSIDE;
        }
        if (ruleCount >= MOST_RULES) {
            return FULL;
        }
        rules[ruleCount] = new Rule(kind, a, b, c, reading(a));
        return ruleCount++;
    }

    public int ask(int r) {
        if (ruleAt(r) == null) {
            return UNKNOWN;
        }
        if (begunEver >= MOST_EVER) {
            return FULL;
        }
        startWork();
        boolean yes = says(r, 0);
        begunLatest = begun;
        if (failure != NO_FAILURE) {
            return FAILURE_BASE - failure;
        }
        return yes ? 1 : 0;
    }

    public int act(int kind, int a, int b, int c) {
        if (!isWithin(kind, POUR, SHOW)) {
            return OUTSIDE;
        }
        if (!knowsPartsOfAct(kind, a, b, c)) {
            return UNKNOWN;
        }
        if (!hasNumbersOfAct(kind, b, c)) {
            return OUTSIDE;
        }
        if (actCount >= MOST_ACTS) {
            return FULL;
        }
        // For the first ACT of all this is NONE, which says later that its part is missing.
        int first = kind == LAST ? actCount - 1 : a;
        acts[actCount] = new Act(kind, first, b, c);
        return actCount++;
    }

    public int run(int x) {
        if (actAt(x) == null) {
            return UNKNOWN;
        }
        if (begunEver >= MOST_EVER) {
            return FULL;
        }
        startWork();
        int came = does(x, 0);
        begunLatest = begun;
        latestAmount = failure == NO_FAILURE ? came : 0;
        return failure == NO_FAILURE ? 1 : FAILURE_BASE - failure;
    }

    public int amount() {
        return latestAmount;
    }

    public int tick(int n) {
        if (!isWithin(n, 1, MOST_TICKS)) {
            return OUTSIDE;
        }
        int done = 0;
        for (int i = 0; i < n; i++) {
            time++;
            done += doThoseDue();
        }
        return done;
    }

    public int failed(int i, int what) {
        switch (what) {
            case 0: return failures.actAt(i);
            case 1: return failures.failureAt(i);
            case 2: return failures.timeAt(i);
            default: return OUTSIDE;
        }
    }

    public int count(int what) {
        switch (what) {
            case 0: return ruleCount;
            case 1: return actCount;
            case 2: return waiting.size;
            case 3: return time;
            case 4: return failures.size;
            case 5: return begunLatest;
            case 6: return begunEver;
            default: return OUTSIDE;
        }
    }

    public int why() {
        return refusal;
    }

    // ---- what there is

    private static boolean isWithin(int n, int least, int most) {
        return n >= least && n <= most;
    }

    private static boolean isSensor(int s) {
        return s >= 0 && s < SENSORS;
    }

    private static boolean isTank(int t) {
        return t >= 0 && t < TANKS;
    }

    private int reading(int s) {
        return s >= 0 && s < SENSORS ? sensors[s] : 0;
    }

    private Rule ruleAt(int r) {
        return r >= 0 && r < ruleCount && r < MOST_RULES ? rules[r] : null;
    }

    private Act actAt(int x) {
        return x >= 0 && x < actCount && x < MOST_ACTS ? acts[x] : null;
    }

    private boolean isRule(int r) {
        return ruleAt(r) != null;
    }

    private boolean isAct(int x) {
        return actAt(x) != null;
    }

    // ---- what a RULE or an ACT may be told with

    private boolean knowsPartsOfRule(int kind, int a, int b) {
        switch (kind) {
            case SHARE: return isSensor(a) && isSensor(b);
            case NOT: case OFTEN: return isRule(a);
            case BOTH: case EITHER: case ELSE: return isRule(a) && isRule(b);
            default: return isSensor(a);
        }
    }

    private static boolean hasNumbersOfRule(int kind, int b, int c) {
        switch (kind) {
            case NEAR: return c >= 0;
            case OFTEN: return isWithin(b, 1, MOST_OFTEN);
            default: return true;
        }
    }

    private boolean knowsPartsOfAct(int kind, int a, int b, int c) {
        switch (kind) {
            case POUR: return isTank(a);
            case MOVE: return isTank(a) && isTank(b);
            case WHEN: return isRule(a) && isActOrNone(b) && isActOrNone(c);
            case THEN: case TRY: return isAct(a) && isAct(b);
            case TIMES: case LATER: return isAct(a);
            case SHOW: return isSensor(a) && isTank(b);
            default: return true;
        }
    }

    private boolean isActOrNone(int x) {
        return x == NONE || isAct(x);
    }

    private static boolean hasNumbersOfAct(int kind, int b, int c) {
        switch (kind) {
            case POUR: return isWithin(b, 0, MOST_POURED);
            case MOVE: return isWithin(c, 0, MOST_POURED);
            case TIMES: return isWithin(b, 0, MOST_TIMES);
            case LATER: return isWithin(b, 0, MOST_LATER);
            default: return true;
        }
    }

    // ---- one work: an ask(), a run(), or an ACT that WAITED

    private void startWork() {
        begun = 0;
        failure = NO_FAILURE;
    }

    private boolean begins() {
        if (begun >= MOST_IN_ONE_WORK) {
            failure = DEEP;
            return false;
        }
        begun++;
        begunEver++;
        return true;
    }

    private boolean canBeCaught() {
        return failure != NO_FAILURE && failure != DEEP;
    }

    // ---- RULES

    // Parts are elder, so the depth stays below MOST_RULES by itself; the test makes that plain.
    private boolean says(int number, int depth) {
        if (!begins()) {
            return false;
        }
        Rule rule = ruleAt(number);
        if (rule == null || depth >= MOST_RULES) {
            failure = MISSING;
            return false;
        }
        switch (rule.kind) {
            case ABOVE: return reading(rule.a) > rule.b;
            case NEAR: return Math.abs((long) reading(rule.a) - (long) rule.b) <= (long) rule.c;
            case OTHER: return reading(rule.a) != rule.kept;
            case SHARE: return saysShare(rule);
            case POINTED: return saysPointed(rule);
            case NOT: return !says(rule.a, depth + 1);
            case BOTH: return saysBoth(rule, depth);
            case EITHER: return saysEither(rule, depth);
            case OFTEN: return saysOften(rule, depth);
            default: return saysElse(rule, depth);
        }
    }

    private boolean saysShare(Rule rule) {
        // As longs, for the least int by -1 is no int.
        long whole = reading(rule.a);
        long parts = reading(rule.b);
        if (parts == 0) {
            failure = ZERO;
            return false;
        }
        return whole / parts >= (long) rule.c;
    }

    private boolean saysPointed(Rule rule) {
        int pointed = reading(rule.a);
        if (!isSensor(pointed)) {
            failure = INDEX;
            return false;
        }
        return reading(pointed) > rule.b;
    }

    private boolean saysBoth(Rule rule, int depth) {
        boolean first = says(rule.a, depth + 1);
        if (failure != NO_FAILURE || !first) {
            return false;
        }
        return says(rule.b, depth + 1);
    }

    private boolean saysEither(Rule rule, int depth) {
        boolean first = says(rule.a, depth + 1);
        if (failure != NO_FAILURE || first) {
            return first;
        }
        return says(rule.b, depth + 1);
    }

    private boolean saysOften(Rule rule, int depth) {
        boolean yes = says(rule.a, depth + 1);
        if (failure == NO_FAILURE && yes) {
            rule.yeses++;
        }
        return rule.yeses >= rule.b;
    }

    private boolean saysElse(Rule rule, int depth) {
        boolean first = says(rule.a, depth + 1);
        if (!canBeCaught()) {
            return first;
        }
        failure = NO_FAILURE;
        return says(rule.b, depth + 1);
    }

    // ---- ACTS

    // Parts are elder here, too: the depth stays below MOST_ACTS, but for the missing part of a LAST.
    private int does(int number, int depth) {
        if (!begins()) {
            return 0;
        }
        Act act = actAt(number);
        if (act == null || depth >= MOST_ACTS) {
            failure = MISSING;
            return 0;
        }
        switch (act.kind) {
            case POUR: return doesPour(act);
            case MOVE: return doesMove(act);
            case WHEN: return doesWhen(act, depth);
            case THEN: return doesThen(act, depth);
            case TIMES: return doesTimes(act, depth);
            case LATER: return doesLater(act);
            case TRY: return doesTry(act, depth);
            case LAST: return does(act.a, depth + 1);
            default: return doesShow(act);
        }
    }

    private int doesPour(Act act) {
        return takesOut(act.a, act.b) ? act.b : 0;
    }

    private int doesMove(Act act) {
        if (!isTank(act.b) || !takesOut(act.a, act.c)) {
            return 0;
        }
        tanks[act.b] += act.c;
        return act.c;
    }

    private boolean takesOut(int t, int n) {
        if (!isTank(t) || tanks[t] < n) {
            failure = DRY;
            return false;
        }
        tanks[t] -= n;
        return true;
    }

    private int doesWhen(Act act, int depth) {
        boolean yes = says(act.a, 0);
        if (failure != NO_FAILURE) {
            return 0;
        }
        int chosen = yes ? act.b : act.c;
        return chosen == NONE ? 0 : does(chosen, depth + 1);
    }

    private int doesThen(Act act, int depth) {
        int first = does(act.a, depth + 1);
        if (failure != NO_FAILURE) {
            return 0;
        }
        return first + does(act.b, depth + 1);
    }

    private int doesTimes(Act act, int depth) {
        int sum = 0;
        for (int i = 0; i < act.b && failure == NO_FAILURE; i++) {
            sum += does(act.a, depth + 1);
        }
        return sum;
    }

    private int doesLater(Act act) {
        waiting.join(act.a, time + act.b);
        return 0;
    }

    private int doesTry(Act act, int depth) {
        if (!isWithin(depth, 0, MOST_ACTS - 1)) {
            return 0;
        }
        int[] ahead = tanksAhead[depth];
        System.arraycopy(tanks, 0, ahead, 0, TANKS);
        int came = does(act.a, depth + 1);
        if (!canBeCaught()) {
            return came;
        }
        System.arraycopy(ahead, 0, tanks, 0, TANKS);
        failure = NO_FAILURE;
        return does(act.b, depth + 1);
    }

    private int doesShow(Act act) {
        if (!isSensor(act.a) || !isTank(act.b)) {
            return 0;
        }
        sensors[act.a] = tanks[act.b];
        return tanks[act.b];
    }

    // ---- TICKS

    private int doThoseDue() {
        int done = 0;
        while (done < MOST_DONE_IN_TICK && begunEver < MOST_EVER) {
            // It WAITS no more while it is done, so that there is room for one that it lets WAIT.
            int due = waiting.takeFirstFor(time);
            if (due == NONE) {
                break;
            }
            doOneThatWaited(due);
            done++;
        }
        return done;
    }

    private void doOneThatWaited(int x) {
        startWork();
        does(x, 0);
        if (failure != NO_FAILURE) {
            failures.keep(x, failure, time);
        }
    }

    private static final class Rule {
        final int kind, a, b, c;
        // What SENSOR a showed when the RULE was told, for OTHER.
        final int kept;
        int yeses;

        Rule(int kind, int a, int b, int c, int kept) {
            this.kind = kind;
            this.a = a;
            this.b = b;
            this.c = c;
            this.kept = kept;
        }
    }

    private static final class Act {
        final int kind, a, b, c;

        Act(int kind, int a, int b, int c) {
            this.kind = kind;
            this.a = a;
            this.b = b;
            this.c = c;
        }
    }

    /** The ACTS that WAIT, in the order in which they came. */
    private static final class Waiting {
        private final int[] numbers = new int[MOST_WAITING];
        private final int[] times = new int[MOST_WAITING];
        private int size;

        void join(int number, int forTime) {
            if (size >= MOST_WAITING) {
                return;
            }
            numbers[size] = number;
            times[size] = forTime;
            size++;
        }

        int takeFirstFor(int now) {
            for (int i = 0; i < size && i < MOST_WAITING; i++) {
                if (times[i] == now) {
                    int number = numbers[i];
                    closeGapAt(i);
                    return number;
                }
            }
            return NONE;
        }

        private void closeGapAt(int place) {
            for (int i = place; i + 1 < size && i + 1 < MOST_WAITING; i++) {
                numbers[i] = numbers[i + 1];
                times[i] = times[i + 1];
            }
            size--;
        }
    }

    /** What FAILED in TICKS: the first of them, as many as are kept. */
    private static final class Failures {
        private final int[] numbers = new int[MOST_FAILURES];
        private final int[] kinds = new int[MOST_FAILURES];
        private final int[] times = new int[MOST_FAILURES];
        private int size;

        void keep(int number, int kind, int now) {
            if (size >= MOST_FAILURES) {
                return;
            }
            numbers[size] = number;
            kinds[size] = kind;
            times[size] = now;
            size++;
        }

        int actAt(int i) {
            return has(i) ? numbers[i] : NONE;
        }

        int failureAt(int i) {
            return has(i) ? kinds[i] : NONE;
        }

        int timeAt(int i) {
            return has(i) ? times[i] : NONE;
        }

        private boolean has(int i) {
            return i >= 0 && i < size && i < MOST_FAILURES;
        }
    }
}
