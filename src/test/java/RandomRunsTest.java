import java.util.Random;

/** All promises: random runs of at most 512 calls, with seeds that are always the same, compared with GardenModel. */
public final class RandomRunsTest {
    private static final int RUNS = 5000, CALLS = 512, CALLS_AT_ONCE = 3, CALLS_OF_COMPARE_ALL = 195;
    private static final int[] EDGES = {Integer.MIN_VALUE, Integer.MIN_VALUE + 1, -2, -1, 0, 1, 5, 6, 7, 8, 9, 10, 39,
        40, 41, 50, 51, 99, 100, 101, 999, 1000, 1001, 1000000, 1000001, Integer.MAX_VALUE};

    private final Due d = new Due();
    private final Random random;
    private final int run;
    // Some runs begin and ask so much that 20000 ever, 60 that WAIT and 30 that FAILED are reached.
    private final boolean heavy;
    private int calls;
    private final GardenRules g = new GardenRules();
    private final GardenModel m = new GardenModel();

    private RandomRunsTest(int run) {
        this.run = run;
        this.heavy = run % 5 == 4;
        this.random = new Random(run);
    }

    public static void main(String[] args) {
        for (int run = 0; run < RUNS; run++) {
            new RandomRunsTest(run).compare();
        }
    }

    private void compare() {
        // Some runs tell first and do then, so that there is much to do; others mix all calls.
        int tellAtFirst = run % 3 == 0 ? 0 : 20 + random.nextInt(80);
        int end = run % 2 == 0 ? CALLS - CALLS_AT_ONCE : CALLS - CALLS_OF_COMPARE_ALL;
        while (calls <= end) {
            if (calls < tellAtFirst || random.nextInt(12) == 0) {
                tell();
            } else {
                call();
            }
        }
        if (run % 2 != 0) {
            compareAll();
        }
        d.end();
    }

    private int any() {
        return EDGES[random.nextInt(EDGES.length)];
    }

    /** Mostly from 0 to most - 1, now and then any edge. */
    private int upTo(int most) {
        return most <= 0 || random.nextInt(40) == 0 ? any() : random.nextInt(most);
    }

    /** Mostly of the youngest, so that parts go deep. */
    private int young(int count) {
        return random.nextBoolean() ? upTo(count) : count - 1 - upTo(3);
    }

    private void due(String call, int got, int want) {
        calls++;
        d.due("run " + run + ": " + call, got, want);
    }

    private void tell() {
        if (heavy && random.nextBoolean()) {
            tellMuch();
        } else if (random.nextBoolean()) {
            tellRule(upTo(10));
        } else {
            tellAct(upTo(9));
        }
    }

    private void tellMuch() {
        int n = m.count(1) - 1;
        int kind = random.nextInt(3) == 0 ? 5 : 4;
        int a = Math.max(0, n - random.nextInt(3));
        int b = kind == 5 ? random.nextInt(3) : 9 - random.nextInt(3);
        due("act(" + kind + ", " + a + ", " + b + ", 0)", g.act(kind, a, b, 0), m.act(kind, a, b, 0));
    }

    private void tellRule(int kind) {
        int n = m.count(0);
        int a = kind <= 4 ? upTo(8) : young(n);
        int b = kind == 3 ? upTo(8) : kind == 8 ? upTo(12) : kind >= 5 ? young(n) : upTo(9) - 2;
        int c = upTo(5);
        due("rule(" + kind + ", " + a + ", " + b + ", " + c + ")", g.rule(kind, a, b, c), m.rule(kind, a, b, c));
    }

    private void tellAct(int kind) {
        int n = m.count(1);
        int a = switch (kind) {
            case 0, 1 -> upTo(6);
            case 2 -> young(m.count(0));
            case 8 -> upTo(8);
            default -> young(n);
        };
        int b = switch (kind) {
            case 0 -> upTo(60);
            case 1, 8 -> upTo(6);
            case 4 -> upTo(10);
            case 5 -> upTo(4);
            default -> random.nextInt(6) == 0 ? -1 : young(n);
        };
        int c = kind == 1 ? upTo(60) : random.nextInt(6) == 0 ? -1 : young(n);
        due("act(" + kind + ", " + a + ", " + b + ", " + c + ")", g.act(kind, a, b, c), m.act(kind, a, b, c));
    }

    private void call() {
        int x = any();
        switch (heavy && random.nextInt(3) != 0 ? 0 : random.nextInt(14)) {
            case 0, 1, 2 -> {
                x = young(m.count(1));
                due("run(" + x + ")", g.run(x), m.run(x));
                due("amount()", g.amount(), m.amount());
                due("count(5)", g.count(5), m.count(5));
            }
            case 3, 4 -> {
                x = young(m.count(0));
                due("ask(" + x + ")", g.ask(x), m.ask(x));
                due("count(5)", g.count(5), m.count(5));
            }
            case 5, 6 -> {
                x = random.nextInt(20) == 0 ? any() : 1 + random.nextInt(3);
                due("tick(" + x + ")", g.tick(x), m.tick(x));
            }
            case 7, 8 -> {
                int s = upTo(8);
                int v = upTo(10) - 1;
                due("show(" + s + ", " + v + ")", g.show(s, v), m.show(s, v));
                due("why()", g.why(), m.why());
            }
            case 9, 10 -> {
                int t = upTo(6);
                int n = random.nextInt(4) == 0 ? any() : upTo(1000);
                due("fill(" + t + ", " + n + ")", g.fill(t, n), m.fill(t, n));
            }
            case 11 -> {
                int s = upTo(8);
                due("shown(" + s + ")", g.shown(s), m.shown(s));
                due("why()", g.why(), m.why());
            }
            case 12 -> {
                int what = upTo(3);
                x = upTo(31);
                due("failed(" + x + ", " + what + ")", g.failed(x, what), m.failed(x, what));
            }
            default -> {
                due("count(" + x + ")", g.count(x), m.count(x));
                due("tank(" + x + ")", g.tank(x), m.tank(x));
            }
        }
    }

    private void compareAll() {
        for (int i = -1; i < 9; i++) {
            due("shown(" + i + ")", g.shown(i), m.shown(i));
            due("tank(" + i + ")", g.tank(i), m.tank(i));
            due("count(" + i + ")", g.count(i), m.count(i));
        }
        for (int i = -1; i < 31; i++) {
            for (int what = -1; what < 4; what++) {
                due("failed(" + i + ", " + what + ")", g.failed(i, what), m.failed(i, what));
            }
        }
    }
}
