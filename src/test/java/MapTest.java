/** Promises 1 to 5: a new object, node, street, turn, charger. */
public final class MapTest {
    public static void main(String[] args) {
        newObject();
        nodes();
        streets();
        streetOrderOfRefusals();
        turns();
        chargers();
        Check.end();
    }

    private static void newObject() {
        RouteGuide g = new RouteGuide();
        Check.due("new: at(0)", g.at(0), 0);
        Check.due("new: cost()", g.cost(), -1);
        Check.due("new: last()", g.last(), 0);
        Check.due("new: snap", g.snap(0, 0, -1), 0);
        Check.due("new: advice", g.advice(0, 0), -1);
        Check.due("new: replan", g.replan(0), -3);
        Check.due("new: search(0)", g.search(0), 0);
        Check.due("new: plan", g.plan(1, 1, 0, 0), -2);
        Check.due("new: street", g.street(1, 2, 1, 1, 0), -1);
        Check.due("new: turn", g.turn(1, 2, true), -1);
        Check.due("new: charger", g.charger(1, 1), -1);
        Check.due("new: traffic", g.traffic(1, 1, 1), -1);
        Check.due("new: first node", g.node(0, 0), 1);
    }

    private static void nodes() {
        RouteGuide g = new RouteGuide();
        long[][] wrong = {{-10001, 0}, {10001, 0}, {0, -10001}, {0, 10001},
            {Long.MIN_VALUE, 0}, {0, Long.MAX_VALUE}, {1L << 32, 0}, {0, 1L << 32}};
        for (long[] w : wrong) {
            Check.due("node outside", g.node(w[0], w[1]), -2);
        }
        Check.due("corner", g.node(-10000, 10000), 1);
        Check.due("corner", g.node(10000, -10000), 2);
        Check.due("the same place again", g.node(10000, -10000), 3);
        for (int n = 4; n <= 60; n++) {
            Check.due("node " + n, g.node(n, n), n);
        }
        Check.due("node 61", g.node(0, 0), -4);
        Check.due("node 61 outside", g.node(10001, 0), -2);
        Check.due("still 60", g.search(0), 60);
    }

    private static void streets() {
        RouteGuide g = new RouteGuide();
        g.node(0, 0);
        g.node(1, 0);
        int[][] unknown = {{0, 1}, {1, 0}, {3, 1}, {1, 3}, {-1, 1}, {1, Integer.MIN_VALUE}, {Integer.MAX_VALUE, 1}};
        for (int[] u : unknown) {
            Check.due("street of no node", g.street(u[0], u[1], 1, 1, 0), -1);
        }
        Check.due("one node", g.street(2, 2, 1, 1, 0), -2);
        long[][] wrong = {{0, 1, 0}, {100001, 1, 0}, {-1, 1, 0}, {1, -1, 0}, {1, 1001, 0}, {1, 1, -1}, {1, 1, 4},
            {(1L << 32) + 1, 1, 0}, {1, (1L << 32) + 1, 0}, {Long.MIN_VALUE, 1, 0}, {1, Long.MIN_VALUE, 0}};
        for (long[] w : wrong) {
            Check.due("street outside", g.street(1, 2, w[0], w[1], (int) w[2]), -2);
        }
        Check.due("least numbers", g.street(1, 2, 1, 1, 0), 1);
        Check.due("greatest numbers", g.street(2, 1, 100000, 1000, 3), 2);
        for (int s = 3; s <= 120; s++) {
            Check.due("street " + s, g.street(1, 2, s, 10, 1), s);
        }
        Check.due("street 121", g.street(1, 2, 5, 10, 0), -4);
        Check.due("no room goes before the exception", g.street(1, 2, 5, 0, 0), -4);
        Check.due("outside goes before no room", g.street(1, 2, 0, 10, 0), -2);
        Check.due("unknown goes before no room", g.street(1, 3, 5, 10, 0), -1);
    }

    private static void streetOrderOfRefusals() {
        RouteGuide g = new RouteGuide();
        g.node(0, 0);
        g.node(1, 0);
        Check.due("unknown goes before one", g.street(9, 9, 0, 0, 9), -1);
        Check.due("speed 0 but of no node", g.street(1, 9, 1, 0, 0), -1);
        Check.due("speed 0 but of one node", g.street(1, 1, 1, 0, 0), -2);
        Check.due("speed 0 but without length", g.street(1, 2, 0, 0, 0), -2);
        Check.due("speed 0 but of no class", g.street(1, 2, 1, 0, 4), -2);
        Check.throwsForSpeed0("speed 0", g, 1, 2, 1, 0);
        Check.due("the exception changed nothing", g.street(1, 2, 1, 1, 0), 1);
        Check.throwsForSpeed0("speed 0 again", g, 1, 2, 1, 0);
    }

    private static void turns() {
        RouteGuide g = new RouteGuide();
        g.node(0, 0);
        g.node(1, 0);
        g.node(2, 0);
        g.street(1, 2, 1, 1, 0);
        g.street(2, 3, 1, 1, 0);
        g.street(2, 1, 1, 1, 0);
        int[][] unknown = {{0, 1}, {1, 0}, {4, 1}, {1, 4}, {-1, -1}, {Integer.MIN_VALUE, 1}, {1, Integer.MAX_VALUE}};
        for (int[] u : unknown) {
            Check.due("turn of no street", g.turn(u[0], u[1], true), -1);
        }
        Check.due("turn the other way round", g.turn(2, 1, true), -2);
        Check.due("turn onto itself", g.turn(1, 1, true), -2);
        Check.due("turn between streets of one beginning", g.turn(2, 3, false), -2);
        Check.due("not barred as before", g.turn(1, 2, false), 0);
        Check.due("barred", g.turn(1, 2, true), 1);
        Check.due("barred as before", g.turn(1, 2, true), 0);
        Check.due("another turn is not barred", g.turn(1, 3, false), 0);
        Check.due("the turn back", g.turn(3, 1, true), 1);
        Check.due("no way by a barred turn", g.plan(1, 3, 0, 0), -1);
        Check.due("open again", g.turn(1, 2, false), 1);
        Check.due("a way again", g.plan(1, 3, 0, 0), 2);
        manyTurns();
    }

    private static void manyTurns() {
        RouteGuide g = new RouteGuide();
        g.node(0, 0);
        g.node(1, 0);
        for (int s = 1; s <= 120; s++) {
            g.street(s % 2 == 1 ? 1 : 2, s % 2 == 1 ? 2 : 1, 1, 1, 0);
        }
        int[] some = {2, 62, 64, 66, 118, 120};
        for (int to : some) {
            Check.due("bar 63 to " + to, g.turn(63, to, true), 1);
            Check.due("bar 119 to " + to, g.turn(119, to, true), 1);
        }
        for (int to = 2; to <= 120; to += 2) {
            boolean barred = java.util.Arrays.binarySearch(some, to) >= 0;
            Check.due("63 to " + to, g.turn(63, to, true), barred ? 0 : 1);
            Check.due("119 to " + to, g.turn(119, to, false), barred ? 1 : 0);
            Check.due("61 to " + to, g.turn(61, to, false), 0);
        }
    }

    private static void chargers() {
        RouteGuide g = new RouteGuide();
        g.node(0, 0);
        g.node(1, 0);
        Check.due("charger of no node", g.charger(0, 1), -1);
        Check.due("charger of no node", g.charger(3, -1), -1);
        Check.due("charger of no node", g.charger(Integer.MIN_VALUE, 1), -1);
        Check.due("rate below 0", g.charger(1, -1), -2);
        Check.due("rate too great", g.charger(1, 1000001), -2);
        Check.due("rate too great", g.charger(1, 1L << 32), -2);
        Check.due("none to take away", g.charger(1, 0), 0);
        Check.due("first", g.charger(2, 1), 1);
        Check.due("second", g.charger(1, 1000000), 2);
        Check.due("another rate", g.charger(1, 5), 2);
        Check.due("taken away", g.charger(2, 0), 1);
        Check.due("taken away", g.charger(1, 0), 0);
    }
}
