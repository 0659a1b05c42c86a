import java.util.ArrayList;
import java.util.List;

/** The document told a second time, by closures and exceptions, so that random runs can be compared with it. */
final class GardenModel {
    static final class Fails extends Exception {
        private static final long serialVersionUID = 1L;
        final int kind;

        Fails(int kind) {
            this.kind = kind;
        }
    }

    interface Says {
        boolean now() throws Fails;
    }

    interface Does {
        int now() throws Fails;
    }

    record Waits(int act, int time) { }

    record Failed(int act, int kind, int time) { }

    private final int[] sensor = new int[8];
    private int[] tank = {100, 100, 100, 100, 100, 100};
    private final List<Says> rules = new ArrayList<>();
    private final List<Does> acts = new ArrayList<>();
    private final List<Waits> waits = new ArrayList<>();
    private final List<Failed> failures = new ArrayList<>();
    private int time, left, latest, ever, amount, why;

    private static boolean in(int n, int from, int to) {
        return from <= n && n <= to;
    }

    int show(int s, int v) {
        int was = shown(s);
        if (why == 0) {
            sensor[s] = v;
        }
        return was;
    }

    int shown(int s) {
        why = in(s, 0, 7) ? 0 : -2;
        return why == 0 ? sensor[s] : 0;
    }

    int fill(int t, int n) {
        if (!in(t, 0, 5)) return -2;
        if (!in(n, 0, 1000000)) return -3;
        int was = tank[t];
        tank[t] = n;
        return was;
    }

    int tank(int t) {
        return in(t, 0, 5) ? tank[t] : -2;
    }

    private boolean isSensor(int s) {
        return in(s, 0, 7);
    }

    private boolean isTank(int t) {
        return in(t, 0, 5);
    }

    private boolean isRule(int r) {
        return in(r, 0, rules.size() - 1);
    }

    private boolean isAct(int x) {
        return in(x, 0, acts.size() - 1);
    }

    private void begin() throws Fails {
        if (left == 0) throw new Fails(5);
        left--;
        ever++;
    }

    private boolean says(int r) throws Fails {
        begin();
        return rules.get(r).now();
    }

    private int does(int x) throws Fails {
        begin();
        if (x < 0) throw new Fails(4);
        return acts.get(x).now();
    }

    int rule(int kind, int a, int b, int c) {
        if (!in(kind, 0, 9)) return -3;
        if (kind <= 4 ? !isSensor(a) : !isRule(a)) return -2;
        if (kind == 3 && !isSensor(b)) return -2;
        if ((kind == 6 || kind == 7 || kind == 9) && !isRule(b)) return -2;
        if (kind == 8 && !in(b, 1, 100)) return -3;
        if (kind == 1 && c < 0) return -3;
        if (rules.size() == 40) return -4;
        rules.add(ruleOf(kind, a, b, c));
        return rules.size() - 1;
    }

    private Says ruleOf(int kind, int a, int b, int c) {
        int[] yeses = {0};
        int told = kind == 2 ? sensor[a] : 0;
        return switch (kind) {
            case 0 -> () -> sensor[a] > b;
            case 1 -> () -> (long) sensor[a] <= (long) b + c && (long) sensor[a] >= (long) b - c;
            case 2 -> () -> sensor[a] != told;
            case 3 -> () -> {
                if (sensor[b] == 0) throw new Fails(1);
                return (long) sensor[a] / sensor[b] >= c;
            };
            case 4 -> () -> {
                if (!isSensor(sensor[a])) throw new Fails(2);
                return sensor[sensor[a]] > b;
            };
            case 5 -> () -> !says(a);
            case 6 -> () -> says(a) && says(b);
            case 7 -> () -> says(a) || says(b);
            case 8 -> () -> (says(a) ? ++yeses[0] : yeses[0]) >= b;
            default -> () -> {
                try {
                    return says(a);
                } catch (Fails f) {
                    if (f.kind == 5) throw f;
                    return says(b);
                }
            };
        };
    }

    int act(int kind, int a, int b, int c) {
        if (!in(kind, 0, 8)) return -3;
        boolean known = switch (kind) {
            case 0 -> isTank(a);
            case 1 -> isTank(a) && isTank(b);
            case 2 -> isRule(a) && (b == -1 || isAct(b)) && (c == -1 || isAct(c));
            case 3, 6 -> isAct(a) && isAct(b);
            case 4, 5 -> isAct(a);
            case 7 -> true;
            default -> isSensor(a) && isTank(b);
        };
        if (!known) return -2;
        if (kind == 0 && !in(b, 0, 1000) || kind == 1 && !in(c, 0, 1000)) return -3;
        if (kind == 4 && !in(b, 0, 9) || kind == 5 && !in(b, 0, 100)) return -3;
        if (acts.size() == 40) return -4;
        acts.add(actOf(kind, a, b, c));
        return acts.size() - 1;
    }

    private Does actOf(int kind, int a, int b, int c) {
        int latestTold = acts.size() - 1;
        return switch (kind) {
            case 0 -> () -> out(a, b);
            case 1 -> () -> {
                int given = out(a, c);
                tank[b] += given;
                return given;
            };
            case 2 -> () -> {
                int x = says(a) ? b : c;
                return x == -1 ? 0 : does(x);
            };
            case 3 -> () -> does(a) + does(b);
            case 4 -> () -> {
                int sum = 0;
                for (int i = 0; i < b; i++) sum += does(a);
                return sum;
            };
            case 5 -> () -> {
                if (waits.size() < 60) waits.add(new Waits(a, time + b));
                return 0;
            };
            case 6 -> () -> {
                int[] ahead = tank.clone();
                try {
                    return does(a);
                } catch (Fails f) {
                    if (f.kind == 5) throw f;
                    tank = ahead;
                    return does(b);
                }
            };
            case 7 -> () -> does(latestTold);
            default -> () -> sensor[a] = tank[b];
        };
    }

    private int out(int t, int n) throws Fails {
        if (tank[t] < n) throw new Fails(3);
        tank[t] -= n;
        return n;
    }

    int ask(int r) {
        if (!isRule(r)) return -2;
        if (ever >= 20000) return -4;
        left = 300;
        try {
            return says(r) ? 1 : 0;
        } catch (Fails f) {
            return -10 - f.kind;
        } finally {
            latest = 300 - left;
        }
    }

    int run(int x) {
        if (!isAct(x)) return -2;
        if (ever >= 20000) return -4;
        left = 300;
        amount = 0;
        try {
            amount = does(x);
            return 1;
        } catch (Fails f) {
            return -10 - f.kind;
        } finally {
            latest = 300 - left;
        }
    }

    int amount() {
        return amount;
    }

    int tick(int n) {
        if (!in(n, 1, 50)) return -3;
        int done = 0;
        for (int i = 0; i < n; i++) {
            time++;
            for (int k = 0; k < 100 && ever < 20000 && doNext(); k++) done++;
        }
        return done;
    }

    private boolean doNext() {
        Waits next = null;
        for (Waits w : waits) {
            if (next == null && w.time == time) next = w;
        }
        if (next == null) return false;
        for (int i = 0; i < waits.size(); i++) {
            if (waits.get(i) == next) {
                waits.remove(i);
                break;
            }
        }
        left = 300;
        try {
            does(next.act);
        } catch (Fails f) {
            if (failures.size() < 30) failures.add(new Failed(next.act, f.kind, time));
        }
        return true;
    }

    int failed(int i, int what) {
        if (!in(what, 0, 2)) return -3;
        if (!in(i, 0, failures.size() - 1)) return -1;
        Failed f = failures.get(i);
        return what == 0 ? f.act : what == 1 ? f.kind : f.time;
    }

    int count(int what) {
        int[] counts = {rules.size(), acts.size(), waits.size(), time, failures.size(), latest, ever};
        return in(what, 0, 6) ? counts[what] : -3;
    }

    int why() {
        return why;
    }
}
