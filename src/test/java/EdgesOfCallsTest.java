import java.util.List;
import java.util.function.ToIntFunction;

/** "An object is used for at most 512 calls after it has been made; what later calls answer is free." */
public final class EdgesOfCallsTest extends Told {
    private static final int MOST_CALLS = 512;

    private record Call(String name, ToIntFunction<GardenRules> answer, int want) { }

    public static void main(String[] args) {
        anyCallIsAnsweredAsThe512th();
        timeAfter511LongestTicks();
        fortyRulesAndActsAskedAndRunUntilThe512th();
        laterCallsComeBack();
        DUE.end();
    }

    /** SENSOR 0 shows 505, which RULE 0 says no to; ACT 0 poured 2, one WAITS, and the 511th call was refused. */
    private static GardenRules after511() {
        GardenRules g = new GardenRules();
        above(g, 0, MOST_CALLS - 7);
        pour(g, 0, 2);
        later(g, 0, 1);
        g.run(1);
        g.run(0);
        for (int v = 1; v <= MOST_CALLS - 7; v++) {
            g.show(0, v);
        }
        g.show(8, 1);
        return g;
    }

    private static void anyCallIsAnsweredAsThe512th() {
        List<Call> calls = List.of(
            new Call("show(0, 1)", g -> g.show(0, 1), 505), new Call("shown(0)", g -> g.shown(0), 505),
            new Call("fill(0, 1)", g -> g.fill(0, 1), 98), new Call("tank(0)", g -> g.tank(0), 98),
            new Call("rule(0, 0, 0, 0)", g -> above(g, 0, 0), 1), new Call("ask(0)", g -> g.ask(0), 0),
            new Call("act(0, 0, 0, 0)", g -> pour(g, 0, 0), 2), new Call("run(0)", g -> g.run(0), 1),
            new Call("amount()", g -> g.amount(), 2), new Call("tick(1)", g -> g.tick(1), 1),
            new Call("failed(0, 0)", g -> g.failed(0, 0), NONE), new Call("count(6)", g -> g.count(6), 2),
            new Call("why()", g -> g.why(), UNKNOWN));
        for (Call call : calls) {
            due("the 512th, " + call.name, call.answer.applyAsInt(after511()), call.want);
        }
    }

    private static void timeAfter511LongestTicks() {
        GardenRules g = new GardenRules();
        for (int i = 1; i < MOST_CALLS; i++) {
            due("tick(50)", g.tick(50), 0);
        }
        due("count(3) as the 512th", g.count(3), (MOST_CALLS - 1) * 50);
    }

    private static void fortyRulesAndActsAskedAndRunUntilThe512th() {
        GardenRules g = new GardenRules();
        g.fill(0, 1000000);
        for (int i = 0; i < 40; i++) {
            above(g, 0, -1);
            pour(g, 0, i);
        }
        for (int call = 82; call < MOST_CALLS; call++) {
            due("call " + call, call % 2 == 0 ? g.ask(call % 40) : g.run(call % 40), 1);
        }
        due("count(6) as the 512th", g.count(6), MOST_CALLS - 82);
    }

    /** What they answer is free, but LANGUAGE.md (rule 7) has no call throw or go on without end, in any state. */
    private static void laterCallsComeBack() {
        int[] edges = {LEAST, -2, -1, 0, 1, 7, 8, 39, 40, 50, 100, 1000, 1000000, GREATEST};
        GardenRules g = after511();
        for (int kind = 0; kind < 10; kind++) {
            for (int a : edges) {
                for (int b : edges) {
                    g.rule(kind, a, b, a);
                    g.act(kind, a, b, a);
                    g.show(a, b);
                    g.fill(a, b);
                    g.failed(a, b);
                }
                g.ask(a);
                g.run(a);
                g.tick(a);
                g.count(a);
                g.tank(a);
                g.shown(a);
            }
        }
    }
}
