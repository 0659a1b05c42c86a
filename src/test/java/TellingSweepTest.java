/** Promises 6 and 8: each KIND with each edge as a, b and c, when few or all were told, as GardenModel answers. */
public final class TellingSweepTest extends Told {
    private static final int[] KINDS = {LEAST, -1, 0, 1, 2, 3, 4, 5, 6, 7, 8, 9, 10, GREATEST};
    private static final int[] EDGES = {LEAST, -2, -1, 0, 1, 2, 5, 6, 7, 8, 9, 10, 39, 40, 100, 101, 1000, 1001,
        GREATEST};
    // A new pair now and then keeps each object's calls below 512.
    private static final int MOST_TOLD = 20;

    public static void main(String[] args) {
        for (int told : new int[] {0, 1, 2, 40}) {
            for (int kind : KINDS) {
                for (int a : EDGES) {
                    tellsAlike(told, kind, a);
                }
            }
        }
        DUE.end();
    }

    private static void tellsAlike(int told, int kind, int a) {
        GardenRules g = null;
        GardenModel m = null;
        int n = 0;
        for (int b : EDGES) {
            for (int c : EDGES) {
                if (n++ % MOST_TOLD == 0) {
                    g = new GardenRules();
                    m = new GardenModel();
                    tell(g, m, told);
                }
                String numbers = "(" + kind + ", " + a + ", " + b + ", " + c + "), told " + told;
                due("rule" + numbers, g.rule(kind, a, b, c), m.rule(kind, a, b, c));
                due("act" + numbers, g.act(kind, a, b, c), m.act(kind, a, b, c));
            }
        }
    }

    private static void tell(GardenRules g, GardenModel m, int told) {
        for (int i = 0; i < told; i++) {
            g.rule(0, 0, 0, 0);
            g.act(0, 0, 0, 0);
            m.rule(0, 0, 0, 0);
            m.act(0, 0, 0, 0);
        }
    }
}
