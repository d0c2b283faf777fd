/** 'Terms', sentence by sentence: the last value that a bound allows and the first beyond it. */
public final class TermsTest {
    public static void main(String[] args) {
        nodes();
        coordinates();
        streets();
        streetNumbers();
        turns();
        plansAreCounted();
        plansUpToTheLastCall();
        trafficUpToANumber();
        times();
        closed();
        uses();
        wayOfOneNode();
        wayOfOpenStreets();
        energyThatMustBeThere();
        chargedUpTo20();
        chargedAtTheFirst();
        unitTimes();
        leastCost();
        fewestStreets();
        leastNumbers();
        lastChargerNearest();
        lastChargerInReach();
        adviceOn();
        adviceBack();
        adviceLeftAndRight();
        distanceFromThePiece();
        squareTakenWhole();
        octants();
        names();
        Check.end();
    }

    private static void nodes() {
        Check.sentence("NODES are numbered from 1 on, at most 60");
        RouteGuide g = new RouteGuide();
        for (int n = 1; n <= 60; n++) {
            Check.due("node", g.node(0, 0), n);
        }
        Check.due("node 61", g.node(0, 0), -4);
        Check.due("node 60 is one", g.plan(60, 60, 0, 0), 0);
        Check.due("node 61 is none", g.plan(61, 61, 0, 0), -2);
        Check.due("node 0 is none", g.plan(0, 0, 0, 0), -2);
        Check.due("node 61 has no charger", g.charger(61, 1), -1);
        Check.due("node 61 has no street", g.street(60, 61, 1, 1, 0), -1);
        Check.due("node 60 has streets", g.street(60, 1, 1, 1, 0), 1);
        Check.due("node 60 has a charger", g.charger(60, 1), 1);
    }

    private static void coordinates() {
        Check.sentence("at places with coordinates -10000 .. 10000");
        RouteGuide g = new RouteGuide();
        Check.due("x 10000", g.node(10000, 0), 1);
        Check.due("x 10001", g.node(10001, 0), -2);
        Check.due("x -10000", g.node(-10000, 0), 2);
        Check.due("x -10001", g.node(-10001, 0), -2);
        Check.due("y 10000", g.node(0, 10000), 3);
        Check.due("y 10001", g.node(0, 10001), -2);
        Check.due("y -10000", g.node(0, -10000), 4);
        Check.due("y -10001", g.node(0, -10001), -2);
        Check.due("a coordinate that would be 0 as an int", g.node(1L << 32, 0), -2);
        Check.due("a coordinate that would be 0 as an int", g.node(0, -1L << 32), -2);
        Check.due("the least long", g.node(Long.MIN_VALUE, Long.MIN_VALUE), -2);
        Check.due("the greatest long", g.node(Long.MAX_VALUE, Long.MAX_VALUE), -2);
    }

    private static void streets() {
        Check.sentence("STREETS are numbered from 1 on, at most 120");
        RouteGuide g = Maps.withNodes(3);
        for (int s = 1; s <= 119; s++) {
            Check.due("street", g.street(1, 2, 9, 1, 0), s);
        }
        Check.due("street 120", g.street(2, 3, 1, 1, 0), 120);
        Check.due("street 121", g.street(1, 3, 1, 1, 0), -4);
        Check.due("the way by street 120", g.plan(1, 3, 0, 0), 2);
        Maps.dueRow("the way by street 120", g, 10000, 1, 120);
        Check.due("the turn to 120 is one", g.turn(119, 120, true), 1);
        Check.due("the turn to 121 is none", g.turn(119, 121, true), -1);
        Check.due("the turn to 0 is none", g.turn(119, 0, true), -1);
        Check.due("traffic on 120", g.traffic(120, 1, 9), 1);
        Check.due("traffic on 121", g.traffic(121, 1, 9), -1);
        Check.due("traffic on 0", g.traffic(0, 1, 9), -1);
    }

    private static void streetNumbers() {
        Check.sentence("each from a node to another one, with a LENGTH (1 .. 100000), a SPEED (1 .. 1000), a CLASS (0 .. 3)");
        RouteGuide g = new RouteGuide();
        g.node(5, 5);
        g.node(5, 5);
        Check.due("from a node to itself", g.street(1, 1, 1, 1, 0), -2);
        Check.due("another node at the same place", g.street(1, 2, 1, 1, 0), 1);
        Check.due("LENGTH 0", g.street(1, 2, 0, 1, 0), -2);
        Check.due("LENGTH 100000", g.street(1, 2, 100000, 1, 0), 2);
        Check.due("LENGTH 100001", g.street(1, 2, 100001, 1, 0), -2);
        Check.due("SPEED -1", g.street(1, 2, 1, -1, 0), -2);
        Check.throwsForSpeed0("SPEED 0", g, 1, 2, 1, 0);
        Check.due("SPEED 1000", g.street(1, 2, 1, 1000, 0), 3);
        Check.due("SPEED 1001", g.street(1, 2, 1, 1001, 0), -2);
        Check.due("CLASS -1", g.street(1, 2, 1, 1, -1), -2);
        Check.due("CLASS 3", g.street(1, 2, 1, 1, 3), 4);
        Check.due("CLASS 4", g.street(1, 2, 1, 1, 4), -2);
        Check.due("a LENGTH that would be 1 as an int", g.street(1, 2, (1L << 32) + 1, 1, 0), -2);
        Check.due("a SPEED that would be 1 as an int", g.street(1, 2, 1, (1L << 32) + 1, 0), -2);
        Check.due("a SPEED that would be 0 as an int", g.street(1, 2, 1, 1L << 32, 0), -2);
    }

    private static void turns() {
        Check.sentence("A TURN from a street to one that begins where it ends may be BARRED");
        RouteGuide g = Maps.withNodes(4);
        g.street(1, 2, 1, 1, 0);
        g.street(2, 3, 1, 1, 0);
        g.street(2, 1, 1, 1, 0);
        g.street(4, 2, 1, 1, 0);
        Check.due("on", g.turn(1, 2, true), 1);
        Check.due("back on the other street of the pair", g.turn(1, 3, true), 1);
        Check.due("the end of one is the end of the other", g.turn(1, 4, true), -2);
        Check.due("the beginning of one is the beginning of the other", g.turn(2, 3, true), -2);
        Check.due("the other way round", g.turn(2, 1, true), -2);
        Check.due("to itself", g.turn(1, 1, true), -2);
        Check.due("barred from street 1", g.plan(1, 3, 0, 0), -1);
        Check.due("not barred from street 4", g.plan(4, 3, 0, 0), 2);
        Check.due("no turn at the beginning", g.plan(2, 3, 0, 0), 1);
    }

    /** Traffic that ends with one plan tells, by its count, which plan is the next. */
    private static void dueNextPlan(String what, RouteGuide g, int next) {
        Check.due(what + ": up to the next plan", g.traffic(1, 1, next), 1);
        Check.due(what + ": up to the one before", g.traffic(1, 1, next - 1), 0);
    }

    private static void plansAreCounted() {
        Check.sentence("PLANS are counted: each plan() and replan() that is not refused is one");
        RouteGuide g = Maps.withNodes(2);
        g.street(1, 2, 1, 1, 0);
        dueNextPlan("none yet", g, 1);
        g.plan(1, 2, 3, 0);
        g.plan(1, 3, 0, 0);
        g.plan(1, 2, 2, 21);
        g.replan(0);
        dueNextPlan("all refused", g, 1);
        Check.due("plan 1", g.plan(1, 2, 0, 0), 1);
        dueNextPlan("a plan that finds a way", g, 2);
        Check.due("plan 2", g.plan(2, 1, 0, 0), -1);
        dueNextPlan("a plan that finds none", g, 3);
        Check.due("plan 3", g.plan(2, 2, 0, 0), 0);
        dueNextPlan("a plan of the empty row", g, 4);
        Check.due("plan 4", g.replan(0), 0);
        dueNextPlan("a replan that takes nothing", g, 5);
        Check.due("refused", g.replan(-1), -2);
        dueNextPlan("a refused replan", g, 5);
        Check.due("plan 5", g.plan(2, 1, 0, 0), -1);
        Check.due("plan 6", g.replan(0), 0);
        dueNextPlan("a replan that finds none", g, 7);
        g.street(2, 1, 1, 1, 0);
        Check.due("plan 7", g.replan(0), 1);
        dueNextPlan("a replan that takes a way", g, 8);
        g.cost();
        g.at(0);
        g.last();
        g.advice(0, 0);
        dueNextPlan("other calls", g, 8);
    }

    private static void plansUpToTheLastCall() {
        Check.sentence("An object is used for at most 512 calls");
        RouteGuide g = Maps.withNodes(2);
        g.street(1, 2, 1, 1, 0);
        g.street(1, 2, 1, 2, 0);
        g.traffic(2, 0, 503);
        for (int plan = 1; plan < 503; plan++) {
            g.plan(1, 2, 0, 0);
        }
        Check.due("call 508 is plan 503", g.plan(1, 2, 0, 0), 1);
        Check.due("call 509: street 2 is closed up to plan 503", g.at(0), 1);
        Check.due("call 510 is plan 504", g.plan(1, 2, 0, 0), 1);
        Check.due("call 511: street 2 is open from plan 504 on", g.at(0), 2);
        Check.due("call 512", g.cost(), 500);
    }

    private static void trafficUpToANumber() {
        Check.sentence("TRAFFIC gives a street another speed for all plans up to one of a number");
        RouteGuide g = Maps.withNodes(2);
        g.street(1, 2, 100, 10, 0);
        Check.due("up to plan 0: for none", g.traffic(1, 5, 0), 0);
        g.plan(1, 2, 0, 0);
        Check.due("plan 1", g.cost(), 10000);
        Check.due("up to plan 3", g.traffic(1, 5, 3), 1);
        g.plan(1, 2, 0, 0);
        Check.due("plan 2", g.cost(), 20000);
        g.plan(1, 2, 0, 0);
        Check.due("plan 3, the last", g.cost(), 20000);
        g.plan(1, 2, 0, 0);
        Check.due("plan 4, the first behind it", g.cost(), 10000);
        Check.due("up to plan 4, which was", g.traffic(1, 5, 4), 0);
        g.plan(1, 2, 0, 0);
        Check.due("plan 5", g.cost(), 10000);
        Check.due("up to the greatest number", g.traffic(1, 5, Long.MAX_VALUE), 1);
        g.plan(1, 2, 0, 0);
        Check.due("plan 6", g.cost(), 20000);
        Check.due("up to a number that would be 0 as an int", g.traffic(1, 4, 1L << 32), 1);
        g.plan(1, 2, 0, 0);
        Check.due("plan 7", g.cost(), 25000);
    }

    private static void times() {
        Check.sentence("The TIME of a street at a plan is 1000 LENGTH / speed (whole)");
        long[][] times = {{1, 1000, 1}, {1, 999, 1}, {1, 501, 1}, {1, 500, 2}, {1, 1, 1000}, {2, 1000, 2}, {2, 667, 2},
            {2, 666, 3}, {7, 3, 2333}, {8, 3, 2666}, {100000, 1, 100000000}, {100000, 1000, 100000}, {99999, 7, 14285571}};
        for (long[] t : times) {
            RouteGuide g = Maps.withNodes(2);
            g.street(1, 2, t[0], t[1], 0);
            g.plan(1, 2, 0, 0);
            Check.due(t[0] + " by " + t[1], g.cost(), t[2]);
            g.traffic(1, t[1] == 1 ? 1000 : 1, 2);
            g.plan(1, 2, 0, 0);
            Check.due(t[0] + " by traffic", g.cost(), t[1] == 1 ? t[0] : 1000 * t[0]);
        }
        RouteGuide g = Maps.chain(2, 1, 600, 0);
        g.plan(1, 3, 0, 0);
        Check.due("each street's time is whole, not the sum alone", g.cost(), 2);
    }

    private static void closed() {
        Check.sentence("by speed 0 it is CLOSED then");
        for (int kind = 0; kind <= 2; kind++) {
            RouteGuide g = Maps.withNodes(2);
            g.street(1, 2, 1, 1, 0);
            Check.due("closed up to plan 1", g.traffic(1, 0, 1), 1);
            Check.due("plan 1 by kind " + kind, g.plan(1, 2, kind, 20), -1);
            Check.due("plan 2 by kind " + kind, g.plan(1, 2, kind, 20), 1);
            Check.due("the slowest is not closed", g.traffic(1, 1, 3), 1);
            Check.due("plan 3 by kind " + kind, g.plan(1, 2, kind, 20), 1);
        }
    }

    private static void uses() {
        Check.sentence("Its USE is 1 + LENGTH (1 + CLASS) / 20000 (whole)");
        int[][] uses = {{1, 0, 1}, {1, 3, 1}, {19999, 0, 1}, {20000, 0, 2}, {9999, 1, 1}, {10000, 1, 2}, {6666, 2, 1},
            {6667, 2, 2}, {4999, 3, 1}, {5000, 3, 2}, {39999, 0, 2}, {40000, 0, 3}, {99999, 0, 5}, {100000, 0, 6},
            {99999, 1, 10}, {100000, 1, 11}, {99999, 2, 15}, {100000, 2, 16}, {94999, 3, 19}, {95000, 3, 20}, {99999, 3, 20}};
        for (int[] u : uses) {
            RouteGuide g = Maps.withNodes(2);
            g.street(1, 2, u[0], 1, u[1]);
            String what = "LENGTH " + u[0] + ", CLASS " + u[1];
            Check.due(what + ": enough", g.plan(1, 2, 2, u[2]), 1);
            Check.due(what + ": a unit too few", g.plan(1, 2, 2, u[2] - 1), -1);
        }
        RouteGuide g = Maps.withNodes(2);
        g.street(1, 2, 100000, 1, 3);
        g.charger(1, 1000);
        Check.due("21 are never there", g.plan(1, 2, 2, 20), -1);
        Check.due("but by time the street is one", g.plan(1, 2, 0, 0), 1);
    }

    private static void wayOfOneNode() {
        Check.sentence("for one and the same node it is the empty row");
        for (int kind = 0; kind <= 2; kind++) {
            RouteGuide g = Maps.withNodes(2);
            Check.due("without a street", g.plan(1, 1, kind, 0), 0);
            Maps.dueRow("without a street", g, 0);
            g.street(1, 2, 1, 1, 0);
            g.street(2, 1, 1, 1, 0);
            Check.due("though there is a round way", g.plan(1, 1, kind, 20), 0);
            Maps.dueRow("though there is a round way", g, 0);
            g.traffic(1, 0, 99);
            g.traffic(2, 0, 99);
            Check.due("though all is closed", g.plan(1, 1, kind, 0), 0);
            Check.due("it is a way, and stays one", g.replan(0), 0);
            Maps.dueRow("it is a way, and stays one", g, 0);
        }
        RouteGuide g = new RouteGuide();
        g.node(3, 3);
        g.node(3, 3);
        Check.due("two nodes at one place are not the same", g.plan(1, 2, 0, 0), -1);
    }

    private static void wayOfOpenStreets() {
        Check.sentence("each beginning where the one before ends, by turns that are not BARRED; "
            + "the first begins at the one node, the last ends at the other");
        RouteGuide g = Maps.withNodes(3);
        g.street(1, 2, 1, 1, 0);
        g.street(3, 2, 1, 1, 0);
        Check.due("a street is not driven from its end", g.plan(1, 3, 0, 0), -1);
        Check.due("nor alone", g.plan(2, 1, 0, 0), -1);
        g.street(2, 3, 1, 1, 0);
        Check.due("there", g.plan(1, 3, 0, 0), 2);
        Maps.dueRow("there", g, 2000, 1, 3);
        g.turn(1, 3, true);
        Check.due("barred", g.plan(1, 3, 0, 0), -1);
        g.street(2, 3, 5, 1, 0);
        Check.due("another street of the same nodes is not barred", g.plan(1, 3, 0, 0), 2);
        Maps.dueRow("another street of the same nodes", g, 6000, 1, 4);
    }

    private static void energyThatMustBeThere() {
        Check.sentence("2 by TIME with ENERGY, 0 .. 20: each street takes its USE, which must be there");
        RouteGuide g = Maps.chain(21, 1, 1000, 0);
        Check.due("20 streets by 20", g.plan(1, 21, 2, 20), 20);
        Check.due("20 streets by 19", g.plan(1, 21, 2, 19), -1);
        Check.due("21 streets by 20", g.plan(1, 22, 2, 20), -1);
        Check.due("one street by 1", g.plan(1, 2, 2, 1), 1);
        Check.due("one street by 0", g.plan(1, 2, 2, 0), -1);
        Check.due("no street by 0", g.plan(1, 1, 2, 0), 0);
        Check.due("energy -1", g.plan(1, 2, 2, -1), -2);
        Check.due("energy 21", g.plan(1, 2, 2, 21), -2);
        Check.due("by time without energy", g.plan(1, 22, 0, 0), 21);
        Check.due("by length without energy", g.plan(1, 22, 1, 0), 21);
    }

    private static void chargedUpTo20() {
        Check.sentence("at a node with a CHARGER, also at the first one, units may be charged, up to 20");
        RouteGuide g = Maps.chain(21, 1, 1000, 0);
        g.charger(1, 1000);
        Check.due("20 streets, all 20 charged", g.plan(1, 21, 2, 0), 20);
        Check.due("20 streets, all 20 charged", g.cost(), 20 + 20);
        Check.due("20 streets, one charged", g.plan(1, 21, 2, 19), 20);
        Check.due("20 streets, one charged", g.cost(), 20 + 1);
        Check.due("20 streets, none charged", g.plan(1, 21, 2, 20), 20);
        Check.due("20 streets, none charged", g.cost(), 20);
        Check.due("21 streets from 0", g.plan(1, 22, 2, 0), -1);
        Check.due("21 streets from 20", g.plan(1, 22, 2, 20), -1);
        g.charger(2, 1000);
        Check.due("21 streets with a charger behind the first", g.plan(1, 22, 2, 20), 21);
        Check.due("21 streets with a charger behind the first", g.cost(), 21 + 1);
        Check.due("21 streets from 0", g.plan(1, 22, 2, 0), 21);
        Check.due("21 streets from 0", g.cost(), 21 + 21);
        g.charger(2, 0);
        g.charger(21, 1000);
        Check.due("21 streets with a charger before the last", g.plan(1, 22, 2, 20), 21);
        Check.due("21 streets with a charger before the last", g.cost(), 21 + 1);
        g.charger(21, 0);
        g.charger(22, 1000);
        Check.due("a charger at the end is none for the way there", g.plan(1, 22, 2, 20), -1);
        RouteGuide h = Maps.withNodes(3);
        h.street(1, 3, 1, 1000, 0);
        h.street(3, 2, 1, 1000, 0);
        h.charger(3, 1000);
        Check.due("a charger at the node of the greatest number", h.plan(1, 2, 2, 1), 2);
        Check.due("a charger at the node of the greatest number", h.cost(), 2 + 1);
    }

    private static void chargedAtTheFirst() {
        Check.sentence("also at the first one");
        RouteGuide g = Maps.chain(1, 1, 1000, 0);
        Check.due("no charger", g.plan(1, 2, 2, 0), -1);
        g.charger(1, 1);
        Check.due("charged", g.plan(1, 2, 2, 0), 1);
        Check.due("charged", g.cost(), 1001);
        Check.due("not charged without need", g.plan(1, 2, 2, 1), 1);
        Check.due("not charged without need", g.cost(), 1);
        Check.due("no charging by time", g.plan(1, 2, 0, 0), 1);
        Check.due("no charging by time", g.cost(), 1);
        g.charger(1, 0);
        Check.due("no charger any more", g.plan(1, 2, 2, 0), -1);
    }

    private static void unitTimes() {
        Check.sentence("each for 1000 / its rate (whole, at least 1) more of TIME");
        int[][] rates = {{1, 1000}, {2, 500}, {3, 333}, {333, 3}, {334, 2}, {500, 2}, {501, 1}, {999, 1}, {1000, 1},
            {1001, 1}, {2000, 1}, {1000000, 1}};
        RouteGuide g = Maps.chain(3, 1, 1000, 0);
        for (int[] r : rates) {
            g.charger(1, r[0]);
            g.plan(1, 2, 2, 0);
            Check.due("a unit by rate " + r[0], g.cost(), 1 + r[1]);
            g.plan(1, 4, 2, 0);
            Check.due("three units by rate " + r[0], g.cost(), 3 + 3 * r[1]);
        }
    }

    private static void leastCost() {
        Check.sentence("its COST is least (charging as is best)");
        RouteGuide g = Maps.withNodes(3);
        g.street(1, 3, 1002, 1000, 0);
        g.street(1, 2, 500, 1000, 0);
        g.street(2, 3, 501, 1000, 0);
        for (int kind = 0; kind <= 2; kind++) {
            Check.due("less by one with a street more", g.plan(1, 3, kind, 20), 2);
            Maps.dueRow("less by one with a street more", g, 1001, 2, 3);
        }
        g.charger(1, 1000);
        Check.due("two units charged are dearer than one", g.plan(1, 3, 2, 0), 1);
        Maps.dueRow("1002 + 1 and 1001 + 2: fewer streets", g, 1003, 1);
        g.charger(2, 1000);
        Check.due("where it is charged is the same then", g.plan(1, 3, 2, 1), 1);
        Maps.dueRow("1002 and 1001 + 1: fewer streets", g, 1002, 1);
        g.charger(1, 1);
        Check.due("one unit dear, the other cheap", g.plan(1, 3, 2, 0), 1);
        Check.due("1002 + 1000 and 1001 + 1000 + 1: fewer streets", g.cost(), 2002);
        Check.due("the dear one is had, the cheap one is charged", g.plan(1, 3, 2, 1), 1);
        g.traffic(1, 999, 99);
        Check.due("1003 and 1001 + 1", g.plan(1, 3, 2, 1), 2);
        Maps.dueRow("1003 and 1001 + 1", g, 1002, 2, 3);
    }

    private static void fewestStreets() {
        Check.sentence("of these it has the fewest streets");
        RouteGuide g = Maps.withNodes(4);
        g.street(1, 2, 10, 1000, 0);
        g.street(2, 3, 10, 1000, 0);
        g.street(3, 4, 10, 1000, 0);
        g.street(2, 4, 20, 1000, 0);
        for (int kind = 0; kind <= 2; kind++) {
            Check.due("two, not three", g.plan(1, 4, kind, 20), 2);
            Maps.dueRow("two, not three", g, 30, 1, 4);
        }
        g.street(1, 4, 30, 1000, 0);
        for (int kind = 0; kind <= 2; kind++) {
            Check.due("one, not two", g.plan(1, 4, kind, 20), 1);
            Maps.dueRow("one, not two", g, 30, 5);
        }
        g.traffic(3, 500, 99);
        g.traffic(4, 0, 99);
        g.traffic(5, 0, 99);
        Check.due("three, where there is no other", g.plan(1, 4, 0, 0), 3);
    }

    private static void leastNumbers() {
        Check.sentence("of these the one whose first street has the least number, then the second, and so on");
        RouteGuide g = Maps.withNodes(4);
        g.street(3, 4, 1, 1000, 0);
        g.street(1, 2, 1, 1000, 0);
        g.street(2, 3, 1, 1000, 0);
        g.street(1, 2, 1, 1000, 0);
        g.street(2, 3, 1, 1000, 0);
        g.street(3, 4, 1, 1000, 0);
        for (int kind = 0; kind <= 2; kind++) {
            g.plan(1, 4, kind, 3);
            Maps.dueRow("all open", g, 3, 2, 3, 1);
        }
        g.turn(2, 3, true);
        g.plan(1, 4, 0, 0);
        Maps.dueRow("the first street goes before the second", g, 3, 2, 5, 1);
        g.turn(5, 1, true);
        g.plan(1, 4, 0, 0);
        Maps.dueRow("the second street goes before the third", g, 3, 2, 5, 6);
        g.turn(2, 5, true);
        g.plan(1, 4, 0, 0);
        Maps.dueRow("from the other first street", g, 3, 4, 3, 1);
        g.turn(3, 1, true);
        g.plan(1, 4, 0, 0);
        Maps.dueRow("the third street at last", g, 3, 4, 3, 6);
    }

    private static RouteGuide star(long[][] places) {
        RouteGuide g = new RouteGuide();
        g.node(0, 0);
        g.node(100, 0);
        for (long[] place : places) {
            int n = g.node(place[0], place[1]);
            g.charger(n, 1);
            g.street(1, n, 1, 1, 0);
        }
        return g;
    }

    private static void lastChargerNearest() {
        Check.sentence("the one nearest to the end (by places; of those as near the one of the least number)");
        RouteGuide g = star(new long[][] {{50, 0}, {49, 0}, {51, 0}, {150, 1}});
        Check.due("no way", g.plan(1, 2, 2, 20), -1);
        Check.due("the nearest", g.last(), 5);
        g = star(new long[][] {{200, 0}, {100, 100}, {0, 0}, {40, 80}});
        Check.due("no way", g.plan(1, 2, 2, 20), -1);
        Check.due("all are as near", g.last(), 3);
        g.charger(3, 0);
        g.replan(0);
        Check.due("the others are as near", g.last(), 4);
        g.charger(1, 1);
        g.replan(0);
        Check.due("the first one is as near, of a lesser number", g.last(), 1);
        g = star(new long[][] {{170, 71}, {200, 0}});
        g.plan(1, 2, 2, 20);
        Check.due("9941 is less than 10000", g.last(), 3);
        g = star(new long[][] {{171, 71}, {200, 0}});
        g.plan(1, 2, 2, 20);
        Check.due("10082 is more than 10000", g.last(), 4);
        g = star(new long[][] {{-10000, -10000}, {10000, 10000}, {100, 0}});
        g.plan(1, 2, 2, 20);
        Check.due("at the place of the end, though not the end", g.last(), 5);
        RouteGuide high = new RouteGuide();
        high.node(0, 0);
        high.node(0, 50);
        high.node(0, 70);
        high.node(0, 29);
        for (int n = 3; n <= 4; n++) {
            high.charger(n, 1);
            high.street(1, n, 1, 1, 0);
        }
        high.plan(1, 2, 2, 20);
        Check.due("20 above the end is nearer than 21 below", high.last(), 3);
        RouteGuide far = new RouteGuide();
        far.node(-10000, -10000);
        far.node(10000, 10000);
        far.charger(1, 1);
        Check.due("no way", far.plan(1, 2, 2, 0), -1);
        Check.due("as far as can be", far.last(), 1);
    }

    private static void lastChargerInReach() {
        Check.sentence("of the nodes with a CHARGER that can be reached so (the first one, too)");
        RouteGuide g = Maps.chain(4, 19999, 1, 0);
        g.node(9000, 0);
        Check.due("no charger", g.plan(1, 6, 2, 20), -1);
        Check.due("no charger", g.last(), 0);
        g.charger(4, 1);
        Check.due("no way", g.plan(1, 6, 2, 3), -1);
        Check.due("reached with nothing left", g.last(), 4);
        Check.due("no way", g.plan(1, 6, 2, 2), -1);
        Check.due("a unit too few", g.last(), 0);
        g.charger(3, 1);
        Check.due("no way", g.plan(1, 6, 2, 2), -1);
        Check.due("reached by charging on the way", g.last(), 4);
        g.charger(4, 0);
        g.charger(5, 1);
        Check.due("no way", g.plan(1, 6, 2, 2), -1);
        Check.due("reached by charging two units on the way", g.last(), 5);
        g.turn(3, 4, true);
        Check.due("no way", g.plan(1, 6, 2, 2), -1);
        Check.due("not by a barred turn", g.last(), 3);
        g.traffic(2, 0, 99);
        Check.due("no way", g.plan(1, 6, 2, 2), -1);
        Check.due("not by a closed street", g.last(), 0);
        g.charger(1, 1);
        Check.due("no way", g.plan(1, 6, 2, 0), -1);
        Check.due("the first one, too", g.last(), 1);
        g.charger(6, 1);
        Check.due("no way", g.replan(0), 0);
        Check.due("the end can not be reached", g.last(), 1);
        Check.due("no way by time", g.plan(1, 6, 0, 0), -1);
        Check.due("by kind 2 alone", g.last(), 0);
        Check.due("no way by length", g.plan(1, 6, 1, 0), -1);
        Check.due("by kind 2 alone", g.last(), 0);
        lastChargerAgainstTheNumbers();
    }

    /** The streets of greater numbers come first, so that none is reached before its turn. */
    private static void lastChargerAgainstTheNumbers() {
        RouteGuide g = Maps.withNodes(9);
        for (int n = 7; n >= 1; n--) {
            g.street(n, n + 1, 19999, 1, 0);
        }
        g.charger(8, 1);
        Check.due("no way", g.plan(1, 9, 2, 7), -1);
        Check.due("seven streets away", g.last(), 8);
        Check.due("no way", g.plan(1, 9, 2, 6), -1);
        Check.due("a unit too few", g.last(), 0);
        g.charger(4, 1);
        Check.due("no way", g.plan(1, 9, 2, 3), -1);
        Check.due("by charging at the fourth", g.last(), 8);
        g.street(2, 1, 1, 1, 0);
        Check.due("no way", g.plan(2, 9, 2, 1), -1);
        Check.due("none is one street away", g.last(), 0);
        g.charger(1, 1);
        Check.due("no way", g.plan(2, 9, 2, 1), -1);
        Check.due("back to the first, and on from there", g.last(), 8);
    }

    private static int adviceOf(long ax, long ay, long bx, long by) {
        RouteGuide g = new RouteGuide();
        g.node(0, 0);
        g.node(ax, ay);
        g.node(ax + bx, ay + by);
        g.street(1, 2, 1, 1, 0);
        g.street(2, 3, 1, 1, 0);
        g.plan(1, 3, 0, 0);
        return g.advice(0, 0);
    }

    private static void adviceOn() {
        Check.sentence("0 on, if 2 |c| <= d");
        Check.due("2 c = d", adviceOf(1, 0, 2, 1), 0);
        Check.due("2 c = d + 1", adviceOf(1, 0, 1999, 1000), 2);
        Check.due("-2 c = d", adviceOf(1, 0, 2, -1), 0);
        Check.due("-2 c = d + 1", adviceOf(1, 0, 1999, -1000), 1);
        Check.due("2 c = d, aslant", adviceOf(3, 4, 2, 11), 0);
        Check.due("c = 0", adviceOf(-7, 5, -7, 5), 0);
        Check.due("the second step is nothing", adviceOf(5, 5, 0, 0), 0);
        Check.due("the first step is nothing", adviceOf(0, 0, -5, 5), 0);
        Check.due("both steps are nothing", adviceOf(0, 0, 0, 0), 0);
        Check.due("the longest steps", adviceOf(10000, 10000, -20000, -20000), 3);
    }

    private static void adviceBack() {
        Check.sentence("3 back, if 2 |c| <= -d");
        Check.due("2 c = -d", adviceOf(1, 0, -2, 1), 3);
        Check.due("2 c = -d + 1", adviceOf(1, 0, -1999, 1000), 2);
        Check.due("-2 c = -d", adviceOf(1, 0, -2, -1), 3);
        Check.due("-2 c = -d + 1", adviceOf(1, 0, -1999, -1000), 1);
        Check.due("c = 0", adviceOf(-7, 5, 7, -5), 3);
    }

    private static void adviceLeftAndRight() {
        Check.sentence("otherwise 2 left, if c > 0, 1 right, if not");
        Check.due("d = 0, c > 0", adviceOf(1, 0, 0, 1), 2);
        Check.due("d = 0, c < 0", adviceOf(1, 0, 0, -1), 1);
        Check.due("d > 0, c > 0", adviceOf(1, 0, 1, 1), 2);
        Check.due("d > 0, c < 0", adviceOf(1, 0, 1, -1), 1);
        Check.due("d < 0, c > 0", adviceOf(1, 0, -1, 1), 2);
        Check.due("d < 0, c < 0", adviceOf(1, 0, -1, -1), 1);
        Check.due("upwards to the left", adviceOf(0, 1, -1, 0), 2);
        Check.due("upwards to the right", adviceOf(0, 1, 1, 0), 1);
    }

    private static void distanceFromThePiece() {
        Check.sentence("the distance of a place from a street is that from the piece between its ends");
        RouteGuide g = Maps.oneStreet(0, 0, 1000, 0);
        Check.due("beside its beginning", g.snap(0, 50, -1), 1);
        Check.due("a little behind its beginning", g.snap(-1, 50, -1), 0);
        Check.due("a little behind its beginning, but nearer", g.snap(-1, 49, -1), 1);
        Check.due("beside its end", g.snap(1000, -50, -1), 1);
        Check.due("a little behind its end", g.snap(1001, -50, -1), 0);
        Check.due("on its line, but behind its end", g.snap(1051, 0, -1), 0);
        Check.due("on its line, and near its end", g.snap(1050, 0, -1), 1);
        RouteGuide none = Maps.oneStreet(7, 7, 7, 7);
        Check.due("a piece of nothing", none.snap(57, 7, -1), 1);
        Check.due("a piece of nothing", none.snap(58, 7, -1), 0);
        RouteGuide slant = Maps.oneStreet(0, 0, 300, 400);
        Check.due("beside a slanting one", slant.snap(150 - 40, 200 + 30, -1), 1);
        Check.due("too far beside a slanting one", slant.snap(150 - 41, 200 + 30, -1), 0);
    }

    private static void squareTakenWhole() {
        Check.sentence("its SQUARE is taken whole (what is behind the point goes)");
        RouteGuide g = Maps.oneStreet(-10000, 0, 10000, 200);
        Check.due("2500.75 is 2500", g.snap(-1, 150, -1), 1);
        Check.due("2501.75 is 2501", g.snap(-2, 150, -1), 0);
        RouteGuide two = new RouteGuide();
        two.node(0, 0);
        two.node(3, 1);
        two.node(0, 2);
        two.node(1, 2);
        two.street(1, 2, 1, 1, 0);
        two.street(3, 4, 1, 1, 0);
        Check.due("1.6 and 0: nearer", two.snap(0, 2, -1), 2);
        two.node(0, 1);
        two.node(1, 1);
        two.street(5, 6, 1, 1, 0);
        Check.due("0.9 and 0 are both 0", two.snap(0, 1, -1), 1);
    }

    private static void octants() {
        Check.sentence("the beginning of each counts, the end does not (0: x > 0, 0 <= y < x)");
        int[][] steps = {{100, 0, 0}, {100, 99, 0}, {100, 100, 1}, {1, 100, 1}, {0, 100, 2}, {-99, 100, 2}, {-100, 100, 3},
            {-100, 1, 3}, {-100, 0, 4}, {-100, -99, 4}, {-100, -100, 5}, {-1, -100, 5}, {0, -100, 6}, {99, -100, 6},
            {100, -100, 7}, {100, -1, 7}};
        for (int[] step : steps) {
            RouteGuide g = Maps.oneStreet(0, 0, step[0], step[1]);
            for (int beside = 0; beside < 8; beside++) {
                int heading = (step[2] + beside) % 8;
                int want = beside <= 1 || beside == 7 ? 1 : 0;
                Check.due("step " + step[0] + ", " + step[1] + " by heading " + heading, g.snap(0, 0, heading), want);
            }
        }
        Check.sentence("A step of nothing has none");
        RouteGuide none = Maps.oneStreet(9, 9, 9, 9);
        for (int heading = 0; heading < 8; heading++) {
            Check.due("heading " + heading, none.snap(9, 9, heading), 0);
        }
        Check.due("no heading", none.snap(9, 9, -1), 1);
    }

    private static int namedSo(RouteGuide g, String letters) {
        int found = g.search(0);
        for (int i = 0; i < letters.length(); i++) {
            found = g.search(letters.charAt(i));
        }
        return found;
    }

    private static void names() {
        Check.sentence("n / 676, n / 26 modulo 26, n modulo 26 (whole), 0 for a");
        String[] last = {"aab", "aaz", "aba", "abz", "aca", "aci"};
        int[] number = {1, 25, 26, 51, 52, 60};
        RouteGuide g = new RouteGuide();
        for (int i = 0, nodes = 0; i < last.length; i++) {
            for (; nodes < number[i] - 1; nodes++) {
                g.node(0, 0);
            }
            Check.due(last[i] + " before node " + number[i], namedSo(g, last[i]), 0);
            g.node(0, 0);
            nodes++;
            Check.due(last[i] + " with node " + number[i], namedSo(g, last[i]), 1);
        }
        Check.due("aaa is node 0, which is none", namedSo(g, "aaa"), 0);
        Check.due("acj is node 61, which is none", namedSo(g, "acj"), 0);
        Check.due("aa: 1 to 25", namedSo(g, "aa"), 25);
        Check.due("ab: 26 to 51", namedSo(g, "ab"), 26);
        Check.due("ac: 52 to 60", namedSo(g, "ac"), 9);
        Check.due("ad", namedSo(g, "ad"), 0);
        Check.due("a", namedSo(g, "a"), 60);
        Check.due("b", namedSo(g, "b"), 0);
    }
}
