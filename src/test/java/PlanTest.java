/** Promises 6 to 8, 10, 11 and 14: plan, at, cost, traffic, replan, last. */
public final class PlanTest {
    public static void main(String[] args) {
        refusals();
        ties();
        closedByLength();
        barredTurnGoesRound();
        energyLimits();
        chargingPrices();
        detourToACharger();
        streetTwice();
        tieOverChargings();
        traffic();
        trafficCount();
        replanGain();
        replanWithoutWay();
        replanWayThatIsNone();
        replanKeepsWay();
        lastCharger();
        Check.end();
    }

    private static void refusals() {
        RouteGuide g = Maps.withNodes(2);
        g.street(1, 2, 10, 10, 0);
        Check.due("plan", g.plan(1, 2, 0, 0), 1);
        int[][] wrong = {{0, 1, 0}, {1, 0, 0}, {3, 1, 0}, {1, 3, 0}, {-1, 1, 0}, {1, 2, -1}, {1, 2, 3}, {1, 1, 3},
            {Integer.MIN_VALUE, 1, 0}, {1, Integer.MAX_VALUE, 0}};
        for (int[] w : wrong) {
            Check.due("refused plan", g.plan(w[0], w[1], w[2], 0), -2);
        }
        Check.due("energy below 0", g.plan(1, 2, 2, -1), -2);
        Check.due("energy 21", g.plan(1, 2, 2, 21), -2);
        Check.due("energy of 2^32", g.plan(1, 2, 2, 1L << 32), -2);
        Check.due("energy for the empty row", g.plan(1, 1, 2, 21), -2);
        Maps.dueRow("a refused plan changes nothing", g, 1000, 1);
        Check.due("and is not counted", g.traffic(1, 5, 2), 1);
        Check.due("and is not counted", g.traffic(1, 5, 1), 0);
        Check.due("energy counts by kind 2 alone", g.plan(1, 2, 0, -1), 1);
        Check.due("energy counts by kind 2 alone", g.plan(1, 2, 1, Long.MAX_VALUE), 1);
        Check.due("no way back", g.plan(2, 1, 0, 0), -1);
        Maps.dueRow("no way", g, -1);
        Check.due("empty row", g.plan(2, 2, 1, 0), 0);
        Maps.dueRow("empty row", g, 0);
        Check.due("empty row without energy", g.plan(2, 2, 2, 0), 0);
        Maps.dueRow("empty row without energy", g, 0);
    }

    private static void ties() {
        RouteGuide g = Maps.withNodes(5);
        g.street(3, 4, 10, 10, 0);
        g.street(1, 3, 10, 10, 0);
        g.street(1, 2, 10, 10, 0);
        g.street(2, 4, 10, 10, 0);
        g.street(1, 3, 10, 10, 0);
        Check.due("two ways", g.plan(1, 4, 0, 0), 2);
        Maps.dueRow("first street of least number", g, 2000, 2, 1);
        g.street(1, 4, 20, 10, 0);
        Check.due("as dear with fewer streets", g.plan(1, 4, 0, 0), 1);
        Maps.dueRow("fewest streets", g, 2000, 6);
        Check.due("as long with fewer streets", g.plan(1, 4, 1, 0), 1);
        Maps.dueRow("fewest streets", g, 20, 6);
        g.street(1, 4, 21, 1000, 0);
        Check.due("quicker but longer", g.plan(1, 4, 0, 0), 1);
        Maps.dueRow("by time", g, 21, 7);
        Check.due("longer but slower", g.plan(1, 4, 1, 0), 1);
        Maps.dueRow("by length", g, 20, 6);
        g.street(3, 5, 10, 3, 0);
        Check.due("whole time", g.plan(3, 5, 0, 0), 1);
        Maps.dueRow("whole time", g, 3333, 8);
    }

    private static void closedByLength() {
        RouteGuide g = Maps.withNodes(3);
        g.street(1, 3, 10, 10, 0);
        g.street(1, 2, 10, 10, 0);
        g.street(2, 3, 10, 10, 0);
        g.traffic(1, 0, 1);
        Check.due("round a closed street", g.plan(1, 3, 1, 0), 2);
        Maps.dueRow("round a closed street", g, 20, 2, 3);
        Check.due("open again", g.plan(1, 3, 1, 0), 1);
        Maps.dueRow("open again", g, 10, 1);
    }

    private static void barredTurnGoesRound() {
        RouteGuide g = Maps.withNodes(4);
        g.street(1, 2, 10, 10, 0);
        g.street(2, 3, 10, 10, 0);
        g.street(2, 4, 10, 10, 0);
        g.street(4, 2, 10, 10, 0);
        g.turn(1, 2, true);
        Check.due("a node twice", g.plan(1, 3, 0, 0), 4);
        Maps.dueRow("a node twice", g, 4000, 1, 3, 4, 2);
        g.turn(3, 4, true);
        Check.due("no turn back", g.plan(1, 3, 0, 0), -1);
    }

    private static void energyLimits() {
        RouteGuide g = Maps.withNodes(3);
        g.street(1, 2, 19999, 1000, 0);
        g.street(2, 3, 20000, 1000, 0);
        Check.due("use 1 of 0", g.plan(1, 2, 2, 0), -1);
        Check.due("use 1 of 1", g.plan(1, 2, 2, 1), 1);
        Check.due("use 2 of 1", g.plan(2, 3, 2, 1), -1);
        Check.due("use 2 of 2", g.plan(2, 3, 2, 2), 1);
        Check.due("use 3 of 2", g.plan(1, 3, 2, 2), -1);
        Check.due("use 3 of 3", g.plan(1, 3, 2, 3), 2);
        RouteGuide h = Maps.withNodes(3);
        h.street(1, 2, 100000, 1000, 3);
        h.street(2, 3, 99999, 1000, 3);
        h.charger(1, 1000);
        h.charger(2, 1000);
        Check.due("use 21 is never there", h.plan(1, 2, 2, 20), -1);
        Check.due("use 20 of 20", h.plan(2, 3, 2, 20), 1);
        Check.due("use 20 of 0, charged", h.plan(2, 3, 2, 0), 1);
        Maps.dueRow("use 20 of 0, charged", h, 99999 + 20, 2);
    }

    private static void chargingPrices() {
        RouteGuide g = Maps.withNodes(2);
        g.street(1, 2, 1, 1000, 0);
        long[][] rates = {{1, 1000}, {3, 333}, {501, 1}, {500, 2}, {1000, 1}, {1001, 1}, {1000000, 1}};
        for (long[] rate : rates) {
            g.charger(1, rate[0]);
            Check.due("one unit charged", g.plan(1, 2, 2, 0), 1);
            Check.due("a unit's time by rate " + rate[0], g.cost(), 1 + rate[1]);
        }
        g.charger(1, 0);
        g.charger(2, 1);
        Check.due("a charger at the end does not help", g.plan(1, 2, 2, 0), -1);
        RouteGuide h = Maps.withNodes(3);
        h.street(1, 2, 1, 1000, 0);
        h.street(2, 3, 1, 1000, 0);
        h.charger(1, 10);
        h.charger(2, 20);
        Check.due("one unit here, one there", h.plan(1, 3, 2, 0), 2);
        Maps.dueRow("one unit here, one there", h, 2 + 100 + 50, 1, 2);
        h.charger(2, 5);
        Check.due("both units at the first", h.plan(1, 3, 2, 0), 2);
        Maps.dueRow("both units at the first", h, 2 + 100 + 100, 1, 2);
    }

    /** Out to a charger and back over the same nodes, because only so it goes on. */
    private static void detourToACharger() {
        RouteGuide g = Maps.withNodes(4);
        g.street(1, 2, 1000, 100, 0);
        g.street(2, 3, 20000, 100, 3);
        g.street(2, 4, 1000, 100, 0);
        g.street(4, 2, 1000, 100, 0);
        g.charger(4, 100);
        Check.due("detour", g.plan(1, 3, 2, 5), 4);
        Maps.dueRow("detour", g, 10000 * 3 + 200000 + 10 * 3, 1, 3, 4, 2);
        Check.due("enough", g.plan(1, 3, 2, 6), 2);
        Maps.dueRow("enough", g, 210000, 1, 2);
        Check.due("not even to the charger", g.plan(1, 3, 2, 1), -1);
    }

    /** The charger can only be had over the street that is driven again afterwards. */
    private static void streetTwice() {
        RouteGuide g = Maps.withNodes(5);
        g.street(1, 2, 1000, 1000, 0);
        g.street(2, 3, 1000, 1000, 0);
        g.street(3, 4, 1000, 1000, 0);
        g.street(4, 2, 1000, 1000, 0);
        g.street(3, 5, 80000, 1000, 3);
        g.charger(4, 500);
        Check.due("a street twice", g.plan(1, 5, 2, 3), 6);
        Maps.dueRow("a street twice", g, 5000 + 80000 + 19 * 2, 1, 2, 3, 4, 2, 5);
    }

    /** The rows are as dear, but are driven by other chargings: the numbers decide. */
    private static void tieOverChargings() {
        RouteGuide g = Maps.withNodes(4);
        g.street(3, 4, 2, 1000, 0);
        g.street(1, 3, 1, 1000, 0);
        g.street(1, 2, 2, 1000, 0);
        g.street(2, 4, 1, 1000, 0);
        g.charger(1, 1000);
        g.charger(2, 1000);
        g.charger(3, 1000);
        Check.due("tie", g.plan(1, 4, 2, 0), 2);
        Maps.dueRow("tie", g, 5, 2, 1);
    }

    private static void traffic() {
        RouteGuide g = Maps.withNodes(3);
        g.street(1, 2, 100, 10, 0);
        g.street(1, 2, 100, 9, 0);
        Check.due("until plan 2", g.traffic(1, 5, 2), 1);
        g.plan(1, 2, 0, 0);
        Maps.dueRow("plan 1", g, 11111, 2);
        g.plan(1, 2, 0, 0);
        Maps.dueRow("plan 2", g, 11111, 2);
        g.plan(1, 2, 0, 0);
        Maps.dueRow("plan 3", g, 10000, 1);
        Check.due("quicker than its own", g.traffic(2, 1000, 4), 1);
        g.plan(1, 2, 0, 0);
        Maps.dueRow("plan 4", g, 100, 2);
        Check.due("closed", g.traffic(1, 0, Long.MAX_VALUE), 1);
        Check.due("closed", g.traffic(2, 0, 5), 2);
        Check.due("no way", g.plan(1, 2, 0, 0), -1);
        Check.due("plan 6", g.plan(1, 2, 0, 0), 1);
        Maps.dueRow("plan 6", g, 11111, 2);
        Check.due("a later traffic stands for the one before", g.traffic(1, 10, 7), 1);
        g.plan(1, 2, 0, 0);
        Maps.dueRow("plan 7", g, 10000, 1);
        Check.due("ended", g.traffic(2, 9, 0), 0);
    }

    private static void trafficCount() {
        RouteGuide g = Maps.withNodes(2);
        g.street(1, 2, 100, 10, 0);
        g.street(2, 1, 100, 10, 0);
        Check.due("no street", g.traffic(0, 5, 1), -1);
        Check.due("no street", g.traffic(3, -1, -1), -1);
        Check.due("no street", g.traffic(Integer.MIN_VALUE, 1, 1), -1);
        Check.due("speed below 0", g.traffic(1, -1, 1), -2);
        Check.due("speed above 1000", g.traffic(1, 1001, 1), -2);
        Check.due("speed of 2^32", g.traffic(1, 1L << 32, 1), -2);
        Check.due("until below 0", g.traffic(1, 5, -1), -2);
        Check.due("until 0", g.traffic(1, 5, 0), 0);
        Check.due("until 1", g.traffic(1, 5, 1), 1);
        Check.due("until 3", g.traffic(2, 1000, 3), 2);
        Check.due("a plan without a way counts", g.traffic(1, 0, 1), 2);
        Check.due("plan 1 finds none", g.plan(1, 2, 0, 0), -1);
        Check.due("street 2 alone", g.traffic(2, 1000, 3), 1);
        Check.due("plan 2", g.replan(0), 1);
        Check.due("plan 3 is next", g.traffic(2, 1000, 3), 1);
        Check.due("plan 3 changes nothing", g.replan(0), 0);
        Check.due("plan 4 is next", g.traffic(2, 1000, 3), 0);
        Check.due("refused", g.replan(-1), -2);
        Check.due("plan 4 is still next", g.traffic(2, 1000, 4), 1);
        Check.due("of its own speed", g.traffic(1, 10, 9), 2);
    }

    private static void replanGain() {
        RouteGuide g = Maps.withNodes(2);
        g.street(1, 2, 100, 10, 0);
        g.street(1, 2, 100, 10, 0);
        Check.due("gain below 0 goes first", g.replan(-1), -2);
        Check.due("nothing planned", g.replan(Long.MAX_VALUE), -3);
        Check.due("refused", g.plan(1, 9, 0, 0), -2);
        Check.due("still nothing planned", g.replan(0), -3);
        g.plan(1, 2, 0, 0);
        Maps.dueRow("planned", g, 10000, 1);
        Check.due("the same row", g.replan(0), 0);
        g.traffic(1, 5, 100);
        Check.due("gains 10000, not 10001", g.replan(10001), 0);
        Maps.dueRow("stays, with its cost", g, 10000, 1);
        Check.due("gains 10000", g.replan(10000), 1);
        Maps.dueRow("taken", g, 10000, 2);
        g.traffic(2, 20, 100);
        Check.due("the same row, though cheaper", g.replan(0), 0);
        Maps.dueRow("the cost as it was", g, 10000, 2);
        g.traffic(2, 5, 100);
        Check.due("as dear, of lesser number", g.replan(1), 0);
        Check.due("as dear, of lesser number", g.replan(0), 1);
        Maps.dueRow("taken", g, 20000, 1);
        Check.due("greatest gain", g.replan(Long.MAX_VALUE), 0);
    }

    private static void replanWithoutWay() {
        RouteGuide g = Maps.withNodes(3);
        Check.due("none", g.plan(1, 2, 0, 0), -1);
        Check.due("none", g.replan(0), 0);
        g.street(1, 2, 100, 10, 0);
        Check.due("there was none", g.replan(Long.MAX_VALUE), 1);
        Maps.dueRow("there was none", g, 10000, 1);
        Check.due("empty", g.plan(3, 3, 0, 0), 0);
        Check.due("the same empty row", g.replan(0), 0);
        Maps.dueRow("empty", g, 0);
    }

    private static void replanWayThatIsNone() {
        RouteGuide g = Maps.withNodes(4);
        g.street(1, 2, 100, 10, 0);
        g.street(2, 3, 100, 10, 0);
        g.street(1, 3, 50000, 10, 0);
        g.plan(1, 3, 0, 0);
        Maps.dueRow("planned", g, 20000, 1, 2);
        g.turn(1, 2, true);
        Check.due("barred turn", g.replan(Long.MAX_VALUE), 1);
        Maps.dueRow("barred turn", g, 5000000, 3);
        g.turn(1, 2, false);
        g.traffic(3, 0, 100);
        Check.due("closed", g.replan(Long.MAX_VALUE), 1);
        Maps.dueRow("closed", g, 20000, 1, 2);
        g.traffic(3, 0, 0);
        g.charger(1, 1000);
        Check.due("by battery", g.plan(1, 3, 2, 0), 2);
        Maps.dueRow("by battery", g, 20002, 1, 2);
        g.charger(1, 1);
        Check.due("charging is dearer, but the row is the same", g.replan(0), 0);
        Maps.dueRow("as it was", g, 20002, 1, 2);
        g.charger(1, 0);
        Check.due("no energy", g.replan(0), 0);
        Maps.dueRow("none is found: it stays", g, 20002, 1, 2);
        Check.due("energy 2", g.plan(1, 3, 2, 2), 2);
        g.charger(1, 1);
        g.street(1, 4, 1, 1000, 0);
        g.street(4, 3, 1, 1000, 0);
        Check.due("gains 19998", g.replan(19999), 0);
        Check.due("gains 19998", g.replan(19998), 1);
        Maps.dueRow("taken", g, 2, 4, 5);
    }

    private static void replanKeepsWay() {
        RouteGuide g = Maps.withNodes(3);
        g.street(1, 2, 100, 10, 0);
        g.street(2, 3, 100, 10, 0);
        g.plan(1, 3, 0, 0);
        Check.due("asked first", g.advice(0, 2), 1);
        g.traffic(1, 0, 3);
        Check.due("none is found", g.replan(0), 0);
        Maps.dueRow("stays", g, 20000, 1, 2);
        Check.due("asked before", g.advice(0, 2), 0);
        g.traffic(1, 10, 3);
        Check.due("the same", g.replan(0), 0);
        Check.due("asked before", g.advice(0, 2), 0);
    }

    private static void lastCharger() {
        RouteGuide g = new RouteGuide();
        g.node(0, 0);
        g.node(100, 0);
        g.node(200, 100);
        g.node(200, -100);
        g.node(1000, 0);
        g.node(900, 0);
        g.street(1, 2, 1, 1000, 0);
        g.street(2, 3, 1, 1000, 0);
        g.street(2, 4, 1, 1000, 0);
        g.street(4, 5, 100000, 1000, 3);
        g.street(1, 6, 1, 1000, 0);
        g.traffic(5, 0, 3);
        Check.due("no charger", g.plan(1, 5, 2, 20), -1);
        Check.due("no charger", g.last(), 0);
        g.charger(4, 1);
        g.charger(3, 1);
        g.charger(6, 1);
        Check.due("two as near", g.plan(1, 5, 2, 2), -1);
        Check.due("two as near: the least number", g.last(), 3);
        Check.due("too far", g.plan(1, 5, 2, 1), -1);
        Check.due("none in reach", g.last(), 0);
        Check.due("street 5 is open", g.plan(1, 5, 2, 1), -1);
        Check.due("street 5 is open", g.last(), 6);
        g.charger(1, 1);
        g.charger(6, 0);
        g.charger(3, 0);
        Check.due("charged at the first", g.plan(1, 5, 2, 0), -1);
        Check.due("charged at the first", g.last(), 4);
        g.turn(1, 3, true);
        Check.due("barred", g.replan(0), 0);
        Check.due("the first one, too", g.last(), 1);
        Check.due("refused", g.plan(1, 5, 2, 21), -2);
        Check.due("a refused plan changes nothing", g.last(), 1);
        Check.due("refused", g.replan(-1), -2);
        Check.due("a refused replan changes nothing", g.last(), 1);
        Check.due("found", g.plan(1, 2, 2, 0), 1);
        Check.due("found", g.last(), 0);
        Check.due("not found", g.plan(1, 5, 2, 0), -1);
        Check.due("not found", g.last(), 1);
        Check.due("by time", g.plan(5, 1, 0, 0), -1);
        Check.due("by time it is not told", g.last(), 0);
        lastOfReplan();
    }

    private static void lastOfReplan() {
        RouteGuide g = Maps.withNodes(2);
        g.street(1, 2, 1, 1000, 0);
        g.charger(1, 1);
        Check.due("found", g.plan(1, 2, 2, 0), 1);
        g.traffic(1, 0, 2);
        Check.due("none", g.replan(0), 0);
        Check.due("told by replan", g.last(), 1);
        Check.due("found, but the same", g.replan(0), 0);
        Check.due("it found a way", g.last(), 0);
    }
}
