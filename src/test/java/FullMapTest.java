import java.util.Random;

/** Any arguments in any state, on maps as great as they may be: nothing is thrown. */
public final class FullMapTest {
    private static final long[] ODD = {Long.MIN_VALUE, Integer.MIN_VALUE, -10001, -3, -1, 0, 1, 2, 3, 7, 8, 20, 21,
        59, 60, 61, 97, 119, 120, 121, 122, 123, 999, 1000, 1001, 10000, 20000, 20001, 100000, 1000000, 1L << 32,
        Integer.MAX_VALUE, Long.MAX_VALUE};

    public static void main(String[] args) {
        for (int seed = 0; seed < 60; seed++) {
            anyCalls(new RouteGuide(), new Random(seed), 0);
            anyCalls(new RouteGuide(), new Random(seed), 2 + seed);
        }
        longChain();
        pairOfNodes();
        Check.end();
    }

    private static void anyCalls(RouteGuide g, Random r, int nodes) {
        for (int n = 0; n < nodes; n++) {
            g.node(r.nextInt(20001) - 10000, r.nextInt(20001) - 10000);
        }
        for (int s = 0; nodes >= 2 && s < 120; s++) {
            g.street(1 + r.nextInt(nodes), 1 + r.nextInt(nodes), 1 + r.nextInt(100000), 1 + r.nextInt(1000), r.nextInt(4));
        }
        for (int call = 0; call < 329; call++) {
            try {
                anyCall(g, r, r.nextInt(14));
            } catch (RuntimeException e) {
                Check.isTrue("nothing is thrown but for a speed of 0: " + e, false);
            }
        }
        Check.isTrue("a cost is -1 or more", g.cost() >= -1);
    }

    private static long odd(Random r) {
        return r.nextInt(3) == 0 ? ODD[r.nextInt(ODD.length)] : 1 + r.nextInt(60);
    }

    private static void anyCall(RouteGuide g, Random r, int which) {
        long a = odd(r);
        long b = odd(r);
        long c = odd(r);
        switch (which) {
            case 0 -> g.node(a, b);
            case 1 -> g.street((int) a, (int) b, c, c == 0 ? 1 : Math.max(1, odd(r)), (int) odd(r) % 5);
            case 2 -> g.turn((int) a, (int) b, r.nextBoolean());
            case 3 -> g.charger((int) a, b);
            case 4 -> g.plan((int) a, (int) b, r.nextInt(5) - 1, r.nextInt(2) == 0 ? c : r.nextInt(21));
            case 5 -> g.at((int) a);
            case 6 -> g.cost();
            case 7 -> g.snap(a, b, (int) c % 10);
            case 8 -> g.traffic((int) a, b, c);
            case 9 -> g.replan(a);
            case 10 -> g.advice((int) a % 6, (int) b % 4);
            case 11 -> g.search((int) a);
            case 12 -> g.last();
            default -> g.part((int) a, (int) b % 10);
        }
    }

    /** 60 nodes in a chain there and back, each street of use 20: every node charges. */
    private static void longChain() {
        RouteGuide g = new RouteGuide();
        for (int n = 1; n <= 60; n++) {
            g.node(n, 0);
            g.charger(n, 1);
        }
        for (int n = 1; n < 60; n++) {
            g.street(n, n + 1, 99999, 1, 3);
            g.street(n + 1, n, 99999, 1, 3);
        }
        Check.due("chain", g.plan(1, 60, 2, 0), 59);
        Check.due("chain cost", g.cost(), 59L * (99999000L + 20000L));
        Check.due("last street", g.at(58), 117);
        Check.due("chain back", g.plan(60, 1, 2, 0), 59);
        Check.due("first street", g.at(0), 118);
        g.charger(30, 0);
        Check.due("broken chain", g.plan(1, 60, 2, 0), -1);
        Check.due("last of the broken chain", g.last(), 29);
    }

    /** Two nodes with 120 streets: all pairs are turns. */
    private static void pairOfNodes() {
        RouteGuide g = new RouteGuide();
        g.node(0, 0);
        g.node(1, 0);
        for (int s = 1; s <= 120; s++) {
            g.street(s <= 60 ? 1 : 2, s <= 60 ? 2 : 1, 121 - s, 1, 0);
        }
        for (int call = 0; call < 190; call++) {
            Check.due("pair", g.plan(1, 2, 2, 20), 1);
            Check.due("pair street", g.at(0), 60);
        }
    }
}
