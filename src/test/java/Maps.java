/** Maps that several tests begin with, and the row of a way asked for whole. */
final class Maps {
    private Maps() {
    }

    static RouteGuide withNodes(int n) {
        RouteGuide g = new RouteGuide();
        for (int i = 1; i <= n; i++) {
            g.node(i * 100, 0);
        }
        return g;
    }

    /** Nodes in a row, and street n from node n to node n + 1, all alike. */
    static RouteGuide chain(int streets, long metres, long speed, int cls) {
        RouteGuide g = withNodes(streets + 1);
        for (int n = 1; n <= streets; n++) {
            g.street(n, n + 1, metres, speed, cls);
        }
        return g;
    }

    static RouteGuide oneStreet(long ax, long ay, long bx, long by) {
        RouteGuide g = new RouteGuide();
        g.node(ax, ay);
        g.node(bx, by);
        g.street(1, 2, 1, 1, 0);
        return g;
    }

    static void dueRow(String what, RouteGuide g, long cost, int... row) {
        Check.due(what + " cost", g.cost(), cost);
        for (int i = 0; i < row.length; i++) {
            Check.due(what + " at(" + i + ")", g.at(i), row[i]);
        }
        Check.due(what + " at(" + row.length + ")", g.at(row.length), 0);
        Check.due(what + " at(-1)", g.at(-1), 0);
        Check.due(what + " at(least)", g.at(Integer.MIN_VALUE), 0);
        Check.due(what + " at(greatest)", g.at(Integer.MAX_VALUE), 0);
    }
}
