import java.util.function.Consumer;
import java.util.function.ToIntFunction;

/** "Refused, and nothing changes": of two objects with like calls one hears a refused call, and both go on alike. */
final class Twins {
    private final Due d;
    private final String call;
    private final GardenRules hears, twin;

    private Twins(Due d, String call, Consumer<GardenRules> before) {
        this.d = d;
        this.call = call;
        this.hears = new GardenRules();
        this.twin = new GardenRules();
        before.accept(hears);
        before.accept(twin);
    }

    static void refused(Due d, String call, Consumer<GardenRules> before, ToIntFunction<GardenRules> refused,
            int want) {
        Twins both = new Twins(d, call, before);
        d.due(call, refused.applyAsInt(both.hears), want);
        both.goOnAlike();
    }

    /** show() and shown() answer 0, and change why() alone. */
    static void refusedBySensor(Due d, String call, Consumer<GardenRules> before, ToIntFunction<GardenRules> refused) {
        Twins both = new Twins(d, call, before);
        d.due(call, refused.applyAsInt(both.hears), 0);
        d.due(call + ", why()", both.hears.why(), GardenRules.UNKNOWN);
        both.alike("shown(0)", g -> g.shown(0));
        both.goOnAlike();
    }

    private void alike(String then, ToIntFunction<GardenRules> ask) {
        d.due(call + ", then " + then, ask.applyAsInt(hears), ask.applyAsInt(twin));
    }

    /** What can be seen at once, and what is told only by what is asked, run and TICKED later. */
    private void goOnAlike() {
        seenAlike();
        int rules = twin.count(0), acts = twin.count(1);
        for (int i = 0; i < rules; i++) {
            int r = i;
            alike("ask(" + r + ")", g -> g.ask(r));
        }
        alike("tick(1)", g -> g.tick(1));
        for (int i = 0; i < acts; i++) {
            int x = i;
            alike("run(" + x + ")", g -> g.run(x));
        }
        alike("tick(50)", g -> g.tick(50));
        alike("rule()", g -> g.rule(2, 0, 0, 0));
        alike("act()", g -> g.act(7, 0, 0, 0));
        alike("run() of the latest", g -> g.run(g.count(1) - 1));
        seenAlike();
    }

    private void seenAlike() {
        // why() comes first, for shown() changes it.
        alike("why()", g -> g.why());
        alike("amount()", g -> g.amount());
        for (int i = 0; i < 8; i++) {
            int n = i;
            alike("shown(" + n + ")", g -> g.shown(n));
        }
        for (int i = 0; i < 6; i++) {
            int n = i;
            alike("tank(" + n + ")", g -> g.tank(n));
        }
        for (int i = 0; i < 7; i++) {
            int n = i;
            alike("count(" + n + ")", g -> g.count(n));
        }
        int failed = twin.count(4);
        for (int i = 0; i < failed; i++) {
            int n = i;
            for (int k = 0; k < 3; k++) {
                int what = k;
                alike("failed(" + n + ", " + what + ")", g -> g.failed(n, what));
            }
        }
    }
}
