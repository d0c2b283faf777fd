/** Promises 1 to 15, sentence by sentence: each bound, each refusal, and which goes first. */
public final class EdgesTest {
    public static void main(String[] args) {
        emptyMap();
        node();
        street();
        streetException();
        turn();
        charger();
        plan();
        planOfNone();
        planOfManyStreets();
        planOfTheSameStreets();
        at();
        cost();
        snapNearest();
        snapHeading();
        snapRefused();
        traffic();
        trafficCount();
        replanNone();
        replanNoMore();
        replanGain();
        replanAnotherRow();
        replanFindsNone();
        replanOfTheLastPlan();
        replanRefused();
        advice();
        adviceAsked();
        adviceRefused();
        search();
        searchRefused();
        last();
        part();
        partOfAnotherEdition();
        partRefused();
        Check.end();
    }

    private static void emptyMap() {
        Check.sentence("An empty map, no WAY");
        RouteGuide g = new RouteGuide();
        Check.due("cost()", g.cost(), -1);
        Check.due("at(0)", g.at(0), 0);
        Check.due("last()", g.last(), 0);
        Check.due("advice(0, 0)", g.advice(0, 0), -1);
        Check.due("replan(0)", g.replan(0), -3);
        Check.due("search(0): no node", g.search(0), 0);
        Check.due("snap: no street", g.snap(0, 0, -1), 0);
        Check.due("plan: no node", g.plan(1, 1, 0, 0), -2);
        Check.due("charger: no node", g.charger(1, 1), -1);
        Check.due("traffic: no street", g.traffic(1, 1, 1), -1);
        Check.due("turn: no street", g.turn(1, 1, false), -1);
        Check.due("street: no node", g.street(1, 1, 1, 1, 0), -1);
        Check.due("the first node", g.node(0, 0), 1);
        g.node(0, 0);
        Check.due("the first street", g.street(1, 2, 1, 1, 0), 1);
        Check.due("the first charger", g.charger(1, 1), 1);
        Check.due("the first traffic", g.traffic(1, 1, 1), 1);
        Check.due("the first letter", g.search('a'), 2);
        Check.due("the first part", g.part(1, 0), 1);
        RouteGuide other = new RouteGuide();
        Check.due("a new object knows nothing of another one", other.node(0, 0), 1);
        Check.due("nor of its parts", other.part(7, 0), 1);
    }

    private static void node() {
        Check.sentence("-2 a coordinate is none, -4 there are 60");
        RouteGuide g = new RouteGuide();
        Check.due("refused in the empty map", g.node(10001, -10001), -2);
        Check.due("and no node", g.node(10000, -10000), 1);
        for (int n = 2; n <= 60; n++) {
            Check.due("node", g.node(n, -n), n);
        }
        Check.due("full", g.node(0, 0), -4);
        Check.due("full, at a place that is taken", g.node(10000, -10000), -4);
        Check.due("full, and x is none", g.node(-10001, 0), -2);
        Check.due("full, and y is none", g.node(0, 10001), -2);
        Check.due("still full", g.node(0, 0), -4);
    }

    private static void street() {
        Check.sentence("-1 there is no such node, -2 they are one, or a number is none but a speed of 0, -4 there are 120");
        RouteGuide g = Maps.withNodes(2);
        Check.due("a is 0", g.street(0, 1, 1, 1, 0), -1);
        Check.due("b is 0", g.street(1, 0, 1, 1, 0), -1);
        Check.due("a is 3", g.street(3, 1, 1, 1, 0), -1);
        Check.due("b is 3", g.street(1, 3, 1, 1, 0), -1);
        Check.due("a is the least int", g.street(Integer.MIN_VALUE, 1, 1, 1, 0), -1);
        Check.due("b is the greatest int", g.street(1, Integer.MAX_VALUE, 1, 1, 0), -1);
        Check.due("no such node, and they are one", g.street(3, 3, 1, 1, 0), -1);
        Check.due("no such node, and no number is one", g.street(1, 3, 0, -1, 4), -1);
        Check.due("no such node, and speed 0", g.street(1, 3, 1, 0, 0), -1);
        Check.due("they are one, and speed 0", g.street(2, 2, 1, 0, 0), -2);
        Check.due("no length, and speed 0", g.street(1, 2, 0, 0, 0), -2);
        Check.due("too long, and speed 0", g.street(1, 2, 100001, 0, 0), -2);
        Check.due("class -1, and speed 0", g.street(1, 2, 1, 0, -1), -2);
        Check.due("class 4, and speed 0", g.street(1, 2, 1, 0, 4), -2);
        Check.due("speed -1 is none", g.street(1, 2, 1, -1, 0), -2);
        Check.due("no street yet", g.snap(100, 0, -1), 0);
        for (int s = 1; s <= 120; s++) {
            Check.due("street", g.street(1 + s % 2, 2 - s % 2, 1, 1, 0), s);
        }
        Check.due("full", g.street(1, 2, 1, 1, 0), -4);
        Check.due("full, and no such node", g.street(1, 3, 1, 1, 0), -1);
        Check.due("full, and they are one", g.street(1, 1, 1, 1, 0), -2);
        Check.due("full, and no length", g.street(1, 2, 0, 1, 0), -2);
        Check.due("full, and too long", g.street(1, 2, 100001, 1, 0), -2);
        Check.due("full, and speed -1", g.street(1, 2, 1, -1, 0), -2);
        Check.due("full, and speed 1001", g.street(1, 2, 1, 1001, 0), -2);
        Check.due("full, and class 4", g.street(1, 2, 1, 1, 4), -2);
    }

    private static void streetException() {
        Check.sentence("ArithmeticException when it has room, and the speed is 0");
        RouteGuide g = Maps.withNodes(2);
        Check.throwsForSpeed0("the first street", g, 1, 2, 1, 0);
        Check.throwsForSpeed0("the greatest other numbers", g, 2, 1, 100000, 3);
        for (int s = 1; s <= 119; s++) {
            Check.due("street", g.street(1, 2, 1, 1, 0), s);
        }
        Check.throwsForSpeed0("room for one", g, 1, 2, 1, 0);
        Check.due("the last one", g.street(1, 2, 1, 1, 0), 120);
        Check.due("no room", g.street(1, 2, 1, 0, 0), -4);
    }

    private static void turn() {
        Check.sentence("1 if that is another way than before, 0 if not");
        RouteGuide g = Maps.chain(3, 1, 1, 0);
        Check.due("open, as at first", g.turn(1, 2, false), 0);
        Check.due("barred", g.turn(1, 2, true), 1);
        Check.due("barred, as before", g.turn(1, 2, true), 0);
        Check.due("the next turn is open still", g.turn(2, 3, false), 0);
        Check.due("open", g.turn(1, 2, false), 1);
        Check.due("open, as before", g.turn(1, 2, false), 0);
        Check.due("barred again", g.turn(1, 2, true), 1);
        Check.sentence("-1 there is no such street, -2 the one does not begin where the other ends");
        Check.due("from 0", g.turn(0, 1, true), -1);
        Check.due("to 0", g.turn(1, 0, true), -1);
        Check.due("from 4", g.turn(4, 1, true), -1);
        Check.due("to 4", g.turn(3, 4, true), -1);
        Check.due("from the greatest int", g.turn(Integer.MAX_VALUE, 1, true), -1);
        Check.due("to the least int", g.turn(1, Integer.MIN_VALUE, false), -1);
        Check.due("a street between them", g.turn(1, 3, true), -2);
        Check.due("the other way round", g.turn(2, 1, false), -2);
        Check.due("the same street", g.turn(2, 2, true), -2);
        Check.due("the last two", g.turn(2, 3, true), 1);
    }

    private static void charger() {
        Check.sentence("A node has a CHARGER of a rate (1 .. 1000000; 0: none any more): how many nodes have one");
        RouteGuide g = Maps.withNodes(60);
        Check.due("none any more where none was", g.charger(1, 0), 0);
        for (int n = 1; n <= 60; n++) {
            Check.due("rate 1", g.charger(n, 1), n);
        }
        Check.due("rate 1000000 for the same node", g.charger(60, 1000000), 60);
        Check.due("none any more", g.charger(60, 0), 59);
        Check.due("none any more, again", g.charger(60, 0), 59);
        Check.due("one again", g.charger(60, 1000000), 60);
        Check.sentence("-1 there is none, -2 the rate");
        Check.due("node 0", g.charger(0, 1), -1);
        Check.due("node 61", g.charger(61, 1), -1);
        Check.due("node -1, and no rate", g.charger(-1, -1), -1);
        Check.due("node 61, and no rate", g.charger(61, 1000001), -1);
        Check.due("the least int", g.charger(Integer.MIN_VALUE, 0), -1);
        Check.due("rate -1", g.charger(1, -1), -2);
        Check.due("rate 1000001", g.charger(1, 1000001), -2);
        Check.due("a rate that would be 0 as an int", g.charger(1, 1L << 32), -2);
        Check.due("the least long", g.charger(1, Long.MIN_VALUE), -2);
        Check.due("all are there still", g.charger(1, 1), 60);
    }

    private static void plan() {
        Check.sentence("-2 there is no such node or kind, or, for kind 2, energy is not 0 .. 20");
        RouteGuide g = Maps.chain(1, 1, 1000, 0);
        Check.due("from 0", g.plan(0, 2, 0, 0), -2);
        Check.due("from 3", g.plan(3, 2, 0, 0), -2);
        Check.due("to 0", g.plan(1, 0, 0, 0), -2);
        Check.due("to 3", g.plan(1, 3, 0, 0), -2);
        Check.due("from the least int", g.plan(Integer.MIN_VALUE, 2, 0, 0), -2);
        Check.due("to the greatest int", g.plan(1, Integer.MAX_VALUE, 0, 0), -2);
        Check.due("kind -1", g.plan(1, 2, -1, 0), -2);
        Check.due("kind 3", g.plan(1, 2, 3, 0), -2);
        Check.due("kind 3 for the empty row", g.plan(1, 1, 3, 0), -2);
        Check.due("energy -1", g.plan(1, 2, 2, -1), -2);
        Check.due("energy 21", g.plan(1, 2, 2, 21), -2);
        Check.due("energy that would be 0 as an int", g.plan(1, 2, 2, 1L << 32), -2);
        Check.due("energy -1 for the empty row", g.plan(1, 1, 2, -1), -2);
        Check.due("nothing was planned", g.replan(0), -3);
        Check.due("energy 0", g.plan(1, 2, 2, 0), -1);
        Check.due("energy 20", g.plan(1, 2, 2, 20), 1);
        Check.due("kind 0, energy -1", g.plan(1, 2, 0, -1), 1);
        Check.due("kind 0, energy 21", g.plan(1, 2, 0, 21), 1);
        Check.due("kind 1, the least energy", g.plan(1, 2, 1, Long.MIN_VALUE), 1);
        Check.due("kind 1, the greatest energy", g.plan(1, 2, 1, Long.MAX_VALUE), 1);
    }

    private static void planOfNone() {
        Check.sentence("-1 there is none (then there is no WAY any more)");
        for (int kind = 0; kind <= 2; kind++) {
            RouteGuide g = Maps.chain(2, 1, 1000, 0);
            Check.due("none before", g.plan(3, 1, kind, 20), -1);
            Maps.dueRow("none before", g, -1);
            Check.due("one", g.plan(1, 3, kind, 20), 2);
            Check.due("none", g.plan(3, 1, kind, 20), -1);
            Maps.dueRow("none", g, -1);
            Check.due("no advice", g.advice(0, 0), -1);
            Check.due("the empty row is one", g.plan(3, 3, kind, 0), 0);
            Maps.dueRow("the empty row is one", g, 0);
            Check.due("none behind the empty row", g.plan(3, 1, kind, 20), -1);
            Maps.dueRow("none behind the empty row", g, -1);
        }
        Check.sentence("Plans a WAY, which is the one that there is then");
        RouteGuide g = Maps.chain(2, 1, 1000, 0);
        g.plan(1, 3, 0, 0);
        Check.due("a shorter one", g.plan(2, 3, 0, 0), 1);
        Maps.dueRow("a shorter one", g, 1, 2);
    }

    /** There and back over all nodes but the last, since turning back is barred before. */
    private static void planOfManyStreets() {
        Check.sentence("Plans a WAY, which is the one that there is then: how many streets");
        RouteGuide g = Maps.chain(58, 1, 1000, 0);
        g.node(0, 0);
        for (int n = 59; n > 2; n--) {
            g.street(n, n - 1, 1, 1000, 0);
        }
        g.street(2, 60, 1, 1000, 0);
        for (int s = 1; s < 58; s++) {
            g.turn(s, 117 - s, true);
        }
        int[] row = new int[116];
        for (int i = 0; i < row.length; i++) {
            row[i] = i + 1;
        }
        Check.due("there and back", g.plan(1, 60, 0, 0), 116);
        Maps.dueRow("there and back", g, 116, row);
        Check.due("the last advice", g.advice(114, 1), 116);
        Check.due("no advice behind it", g.advice(115, 1), -1);
        Check.due("20 units are too few", g.plan(1, 60, 2, 20), -1);
        for (int n = 1; n <= 59; n += 2) {
            g.charger(n, 1000);
        }
        Check.due("charged on the way", g.plan(1, 60, 2, 0), 116);
        Maps.dueRow("charged on the way", g, 116 + 116, row);
    }

    /**
     * Each round over street 1 begins with a unit more and so comes to a charger that is a street
     * farther away, from which the way back is a street shorter; the last round is for the exit.
     */
    private static void planOfTheSameStreets() {
        Check.sentence("each street takes its USE, which must be there");
        RouteGuide g = Maps.withNodes(52);
        int rounds = 17;
        int exit = 52;
        g.street(1, 2, 1, 1000, 0);
        for (int k = 1; k <= rounds; k++) {
            int out = k + 1;
            int charger = 18 + k;
            int back = k == rounds ? 1 : 35 + k;
            g.street(out, charger, 1, 1000, 0);
            g.street(charger, back, 1, 1000, 0);
            if (k < rounds) {
                g.street(out, k + 2, 1, 1000, 0);
                g.street(back, k + 1 == rounds ? 1 : back + 1, 1, 1000, 0);
            }
            g.charger(charger, 1000);
        }
        g.street(2, exit, 85000, 1000, 3);
        Check.due("a unit too few for the first round", g.plan(1, exit, 2, 1), -1);
        Check.due("no charger in reach", g.last(), 0);
        Check.due("all rounds", g.plan(1, exit, 2, 2), 18 + rounds * 18 + 1);
        Check.due("all rounds: 324 streets of 1, the exit, and what is charged", g.cost(), 324 + 85000 + 324 + 18 - 2);
        for (int round = 0; round <= rounds; round++) {
            Check.due("round " + round + " begins", g.at(19 * round), 1);
        }
        Check.due("the last street", g.at(324), 1 + 4 * rounds - 2 + 1);
        Check.due("no street behind it", g.at(325), 0);
        Check.due("the last advice", g.advice(323, 2), 1);
        Check.due("the last advice, asked", g.advice(323, 2), 0);
        Check.due("the street is as before", g.at(323), 1);
        Check.due("no advice behind it", g.advice(324, 2), -1);
        Check.due("the same row", g.replan(0), 0);
        Check.due("one unit more: a round less", g.plan(1, exit, 2, 3), 325 - 19);
        Check.due("all but the exit's use", g.plan(1, exit, 2, 18), 325 - 19 * 16);
        Check.due("enough", g.plan(1, exit, 2, 19), 2);
    }

    private static void at() {
        Check.sentence("Street i (from 0 on) of the WAY; 0 if there is none");
        RouteGuide g = Maps.chain(3, 1, 1000, 0);
        Check.due("no WAY", g.at(0), 0);
        g.plan(2, 4, 0, 0);
        Check.due("i -1", g.at(-1), 0);
        Check.due("i 0", g.at(0), 2);
        Check.due("i 1, the last", g.at(1), 3);
        Check.due("i 2", g.at(2), 0);
        Check.due("the least int", g.at(Integer.MIN_VALUE), 0);
        Check.due("the greatest int", g.at(Integer.MAX_VALUE), 0);
        g.plan(1, 4, 0, 0);
        g.plan(2, 3, 0, 0);
        Check.due("nothing is left of a longer WAY", g.at(1), 0);
        g.plan(1, 1, 0, 0);
        Check.due("the empty row", g.at(0), 0);
        g.plan(4, 1, 0, 0);
        Check.due("no WAY any more", g.at(0), 0);
    }

    private static void cost() {
        Check.sentence("The COST of the WAY, as it was when it was taken; -1 if there is none");
        RouteGuide g = Maps.chain(2, 3, 1000, 0);
        Check.due("none", g.cost(), -1);
        g.plan(1, 1, 0, 0);
        Check.due("the empty row", g.cost(), 0);
        g.plan(1, 3, 0, 0);
        Check.due("by time", g.cost(), 6);
        g.traffic(1, 500, 99);
        Check.due("traffic that came later", g.cost(), 6);
        Check.due("the same row", g.replan(0), 0);
        Check.due("as it was when it was taken", g.cost(), 6);
        g.plan(1, 3, 1, 0);
        Check.due("by length", g.cost(), 6);
        g.plan(1, 3, 2, 2);
        Check.due("by time with energy", g.cost(), 9);
        g.charger(1, 1);
        g.plan(1, 3, 2, 1);
        Check.due("with a unit charged", g.cost(), 1009);
        g.charger(1, 1000);
        Check.due("a charger that came later", g.cost(), 1009);
        g.plan(3, 1, 0, 0);
        Check.due("none any more", g.cost(), -1);
        RouteGuide most = Maps.chain(59, 100000, 1, 0);
        most.plan(1, 60, 0, 0);
        Check.due("more than an int holds", most.cost(), 5900000000L);
        most.plan(1, 60, 1, 0);
        Check.due("the length of the same", most.cost(), 5900000L);
    }

    private static void snapNearest() {
        Check.sentence("The street nearest to a place by the SQUARE of its distance, at most 2500");
        RouteGuide g = Maps.oneStreet(0, 0, 100, 0);
        Check.due("a SQUARE of 2500", g.snap(50, 50, -1), 1);
        Check.due("a SQUARE of 2601", g.snap(50, 51, -1), 0);
        Check.due("a SQUARE of 2500 behind the end", g.snap(148, 14, -1), 1);
        Check.due("a SQUARE of 2501 behind the end", g.snap(149, -10, -1), 0);
        g.node(0, 10);
        g.node(100, 10);
        g.street(3, 4, 1, 1, 0);
        Check.due("nearer to the first", g.snap(50, 4, -1), 1);
        Check.due("nearer to the second", g.snap(50, 6, -1), 2);
        Check.sentence("of as near ones the least number; 0 if there is none");
        Check.due("as near", g.snap(50, 5, -1), 1);
        Check.due("as near, but too far", g.snap(150, 5, -1), 0);
        g.street(1, 2, 1, 1, 0);
        Check.due("a third one at the first's place", g.snap(50, 4, -1), 1);
        Check.due("none", g.snap(50, -51, -1), 0);
    }

    private static void snapHeading() {
        Check.sentence("of those whose step's OCTANT is the heading's, or one beside it");
        RouteGuide g = Maps.oneStreet(0, 0, 100, 0);
        int[] want = {1, 1, 0, 0, 0, 0, 0, 1};
        for (int heading = 0; heading < 8; heading++) {
            Check.due("octant 0 by heading " + heading, g.snap(50, 0, heading), want[heading]);
        }
        g.node(0, 1);
        g.node(100, 0);
        g.street(3, 4, 1, 1, 0);
        int[] both = {1, 1, 0, 0, 0, 0, 2, 1};
        for (int heading = 0; heading < 8; heading++) {
            Check.due("octants 0 and 7 by heading " + heading, g.snap(50, 0, heading), both[heading]);
        }
        Check.sentence("(heading -1: of all; streets without one count for that alone)");
        Check.due("of all", g.snap(50, 0, -1), 1);
        RouteGuide h = Maps.oneStreet(0, 0, 0, 0);
        h.node(10, 0);
        h.street(1, 3, 1, 1, 0);
        Check.due("of all: the one without an octant is first", h.snap(-9, 0, -1), 1);
        Check.due("by heading 0 it does not count", h.snap(-9, 0, 0), 2);
        Check.due("by heading 4 none counts", h.snap(-9, 0, 4), 0);
    }

    private static void snapRefused() {
        Check.sentence("-2 a coordinate is below -20000 or above 20000, or heading is not -1 .. 7");
        RouteGuide g = Maps.oneStreet(-10000, -10000, 10000, 10000);
        Check.due("x -20000", g.snap(-20000, 0, -1), 0);
        Check.due("x -20001", g.snap(-20001, 0, -1), -2);
        Check.due("x 20000", g.snap(20000, 0, -1), 0);
        Check.due("x 20001", g.snap(20001, 0, -1), -2);
        Check.due("y -20000", g.snap(0, -20000, -1), 0);
        Check.due("y -20001", g.snap(0, -20001, -1), -2);
        Check.due("y 20000", g.snap(0, 20000, -1), 0);
        Check.due("y 20001", g.snap(0, 20001, -1), -2);
        Check.due("the farthest corner", g.snap(20000, -20000, 1), 0);
        Check.due("a coordinate that would be 0 as an int", g.snap(1L << 32, 0, -1), -2);
        Check.due("the least long", g.snap(0, Long.MIN_VALUE, -1), -2);
        Check.due("heading -1", g.snap(0, 0, -1), 1);
        Check.due("heading -2", g.snap(0, 0, -2), -2);
        Check.due("heading 0", g.snap(0, 0, 0), 1);
        Check.due("heading 7", g.snap(0, 0, 7), 0);
        Check.due("heading 8", g.snap(0, 0, 8), -2);
        Check.due("the least int", g.snap(0, 0, Integer.MIN_VALUE), -2);
        Check.due("the greatest int", g.snap(0, 0, Integer.MAX_VALUE), -2);
        RouteGuide empty = new RouteGuide();
        Check.due("the empty map", empty.snap(20000, 20000, 7), 0);
        Check.due("the empty map, x 20001", empty.snap(20001, 0, 7), -2);
        Check.due("the empty map, heading 8", empty.snap(0, 0, 8), -2);
    }

    private static void traffic() {
        Check.sentence("-1 there is none, -2 the speed is not 0 .. 1000, or until is below 0");
        RouteGuide g = Maps.chain(2, 1, 1000, 0);
        Check.due("street 0", g.traffic(0, 1, 1), -1);
        Check.due("street 3", g.traffic(3, 1, 1), -1);
        Check.due("street -1, and no speed", g.traffic(-1, -1, -1), -1);
        Check.due("street 3, and no speed", g.traffic(3, 1001, 1), -1);
        Check.due("street 3, and until -1", g.traffic(3, 1, -1), -1);
        Check.due("the least int", g.traffic(Integer.MIN_VALUE, 1, 1), -1);
        Check.due("speed -1", g.traffic(1, -1, 1), -2);
        Check.due("speed 1001", g.traffic(1, 1001, 1), -2);
        Check.due("a speed that would be 1 as an int", g.traffic(1, (1L << 32) + 1, 1), -2);
        Check.due("until -1", g.traffic(1, 1, -1), -2);
        Check.due("the least until", g.traffic(1, 1, Long.MIN_VALUE), -2);
        Check.due("until 0", g.traffic(1, 1, 0), 0);
        Check.due("speed 0", g.traffic(1, 0, 1), 1);
        Check.due("speed 1000", g.traffic(2, 1000, 1), 2);
    }

    private static void trafficCount() {
        Check.sentence("how many streets have such TRAFFIC for the next plan");
        RouteGuide g = Maps.withNodes(2);
        for (int s = 1; s <= 120; s++) {
            g.street(1, 2, 1, 1, 0);
        }
        for (int s = 1; s <= 120; s++) {
            Check.due("each street counts once", g.traffic(s, s % 3, 1 + s % 2), s);
        }
        Check.due("a street again", g.traffic(120, 5, 1), 120);
        Check.due("a street up to a plan that was", g.traffic(120, 5, 0), 119);
        g.plan(1, 2, 0, 0);
        Check.due("the odd ones are left for plan 2", g.traffic(120, 5, 1), 60);
        g.plan(1, 2, 0, 0);
        Check.due("none is left for plan 3", g.traffic(120, 5, 2), 0);
        Check.due("one for plan 3", g.traffic(120, 5, 3), 1);
    }

    private static void replanNone() {
        Check.sentence("1 if the WAY found is taken: there was none");
        RouteGuide g = Maps.withNodes(2);
        Check.due("none", g.plan(1, 2, 0, 0), -1);
        Check.due("none still", g.replan(0), 0);
        g.street(1, 2, 7, 1000, 0);
        Check.due("taken, whatever the gain", g.replan(Long.MAX_VALUE), 1);
        Maps.dueRow("taken", g, 7, 1);
        Check.due("and now it is there", g.replan(0), 0);
    }

    private static void replanNoMore() {
        Check.sentence("or the one that there is would not be one any more");
        RouteGuide g = Maps.withNodes(3);
        g.street(1, 2, 1, 1000, 0);
        g.street(2, 3, 1, 1000, 0);
        g.street(1, 3, 100000, 1, 3);
        g.plan(1, 3, 0, 0);
        Maps.dueRow("planned", g, 2, 1, 2);
        g.traffic(2, 0, 2);
        Check.due("a street is closed", g.replan(Long.MAX_VALUE), 1);
        Maps.dueRow("a street is closed", g, 100000000, 3);
        Check.due("gains 99999998, not one more", g.replan(99999999), 0);
        Check.due("gains 99999998", g.replan(99999998), 1);
        g.turn(1, 2, true);
        Check.due("a turn is barred", g.replan(Long.MAX_VALUE), 1);
        Maps.dueRow("a turn is barred", g, 100000000, 3);
        RouteGuide h = Maps.withNodes(3);
        h.street(1, 3, 40000, 1000, 0);
        h.street(1, 2, 1, 1, 0);
        h.street(2, 3, 40001, 1000, 0);
        h.charger(1, 1);
        h.charger(2, 1);
        Check.due("by energy", h.plan(1, 3, 2, 2), 1);
        Maps.dueRow("by energy", h, 41000, 1);
        h.charger(1, 0);
        Check.due("the energy is not there any more", h.replan(Long.MAX_VALUE), 1);
        Maps.dueRow("the energy is not there any more", h, 1000 + 40001 + 2000, 2, 3);
        h.charger(2, 0);
        Check.due("none is found", h.replan(0), 0);
        h.charger(1, 1);
        Check.due("by the first charger", h.replan(0), 1);
        Maps.dueRow("by the first charger", h, 41000, 1);
    }

    private static void replanGain() {
        Check.sentence("or its COST by now less that of the one found is the gain or more");
        for (long gain = 0; gain <= 3; gain++) {
            RouteGuide g = Maps.withNodes(2);
            g.street(1, 2, 10, 1000, 0);
            g.street(1, 2, 11, 1000, 0);
            g.plan(1, 2, 0, 0);
            Maps.dueRow("planned", g, 10, 1);
            g.traffic(1, 769, 99);
            Check.due("13 less 11 is " + gain + " or more", g.replan(gain), gain <= 2 ? 1 : 0);
            Maps.dueRow("gain " + gain, g, gain <= 2 ? 11 : 10, gain <= 2 ? 2 : 1);
        }
        RouteGuide g = Maps.withNodes(3);
        g.street(1, 3, 10, 1000, 0);
        g.street(1, 2, 1, 1000, 0);
        g.street(2, 3, 12, 1000, 0);
        g.charger(1, 1000);
        g.charger(2, 1000);
        g.plan(1, 3, 2, 0);
        Maps.dueRow("with a unit charged", g, 11, 1);
        g.charger(1, 500);
        g.traffic(3, 1000, 99);
        g.traffic(1, 500, 99);
        Check.due("20 + 2 less 13 + 2 + 1 is 6, not 7", g.replan(7), 0);
        Check.due("20 + 2 less 13 + 2 + 1 is 6", g.replan(6), 1);
        Maps.dueRow("taken", g, 16, 2, 3);
    }

    private static void replanAnotherRow() {
        Check.sentence("and the one found is another row; 0 if not");
        RouteGuide g = Maps.withNodes(3);
        g.street(1, 2, 2, 1000, 0);
        g.street(1, 2, 1, 1000, 0);
        g.plan(1, 2, 0, 0);
        Maps.dueRow("planned", g, 1, 2);
        Check.due("the same row gains 0", g.replan(0), 0);
        g.traffic(2, 500, 99);
        Check.due("as dear, but another row", g.replan(0), 1);
        Maps.dueRow("as dear, but another row", g, 2, 1);
        Check.due("the same row now", g.replan(0), 0);
        g.plan(3, 3, 0, 0);
        Check.due("the empty row is the same", g.replan(0), 0);
        RouteGuide h = Maps.chain(3, 2, 1000, 0);
        h.plan(1, 4, 0, 0);
        h.street(3, 4, 1, 1000, 0);
        Check.due("the last street is another", h.replan(1), 1);
        Maps.dueRow("the last street is another", h, 5, 1, 2, 4);
        h.street(1, 2, 1, 1000, 0);
        Check.due("the first street is another", h.replan(1), 1);
        Maps.dueRow("the first street is another", h, 4, 5, 2, 4);
        h.street(1, 4, 4, 1000, 0);
        Check.due("another row of fewer streets", h.replan(0), 1);
        Maps.dueRow("another row of fewer streets", h, 4, 6);
    }

    private static void replanFindsNone() {
        Check.sentence("0 if not (also when none is found; then the WAY stays)");
        RouteGuide g = Maps.chain(2, 1, 1000, 0);
        g.plan(1, 3, 0, 0);
        g.traffic(1, 0, 2);
        Check.due("none is found", g.replan(0), 0);
        Maps.dueRow("the WAY stays", g, 2, 1, 2);
        Check.due("with its advice", g.advice(0, 1), 2);
        Check.due("found again, the same row", g.replan(0), 0);
        Maps.dueRow("the WAY stays", g, 2, 1, 2);
        g.plan(3, 1, 0, 0);
        Check.due("none is found, and none was", g.replan(0), 0);
        Maps.dueRow("none is found, and none was", g, -1);
    }

    private static void replanOfTheLastPlan() {
        Check.sentence("Plans anew what was planned last");
        RouteGuide g = Maps.withNodes(3);
        g.street(1, 2, 1, 1, 0);
        g.street(1, 2, 2, 1000, 0);
        g.plan(1, 2, 0, 0);
        g.plan(1, 2, 1, 0);
        Maps.dueRow("by length", g, 1, 1);
        g.traffic(1, 0, 3);
        Check.due("by length again", g.replan(0), 1);
        Maps.dueRow("by length again", g, 2, 2);
        Check.due("the shorter one is open", g.replan(1), 1);
        Maps.dueRow("the shorter one is open", g, 1, 1);
        Check.due("a refused plan is not what was planned", g.plan(1, 2, 3, 0), -2);
        Check.due("nor this", g.plan(1, 9, 0, 0), -2);
        Check.due("by length still", g.replan(0), 0);
        Check.due("no way", g.plan(2, 1, 0, 0), -1);
        g.street(2, 1, 3, 1000, 0);
        Check.due("what found none was planned, too", g.replan(0), 1);
        Maps.dueRow("what found none was planned, too", g, 3, 3);
        Check.due("energy 1", g.plan(1, 2, 2, 1), 1);
        g.charger(1, 1);
        g.traffic(2, 1, 9);
        g.traffic(1, 500, 9);
        Check.due("energy 1 again: none is charged", g.replan(0), 1);
        Maps.dueRow("energy 1 again", g, 2, 1);
    }

    private static void replanRefused() {
        Check.sentence("-2 the gain is below 0, -3 nothing was planned");
        RouteGuide g = Maps.chain(1, 1, 1000, 0);
        Check.due("gain 0, nothing planned", g.replan(0), -3);
        Check.due("the greatest gain, nothing planned", g.replan(Long.MAX_VALUE), -3);
        Check.due("gain -1, nothing planned", g.replan(-1), -2);
        Check.due("a refused plan", g.plan(0, 0, 0, 0), -2);
        Check.due("nothing planned still", g.replan(0), -3);
        g.plan(1, 2, 0, 0);
        Check.due("gain 0", g.replan(0), 0);
        Check.due("gain -1", g.replan(-1), -2);
        Check.due("the least gain", g.replan(Long.MIN_VALUE), -2);
        Check.due("the greatest gain", g.replan(Long.MAX_VALUE), 0);
        RouteGuide none = Maps.withNodes(2);
        none.plan(1, 2, 0, 0);
        Check.due("a plan that found none was one", none.replan(0), 0);
        none.plan(1, 1, 0, 0);
        Check.due("a plan of the empty row was one", none.replan(0), 0);
    }

    private static void advice() {
        Check.sentence("what = 0 its kind, 1 the street that comes then");
        RouteGuide g = new RouteGuide();
        g.node(0, 0);
        g.node(10, 0);
        g.node(10, 10);
        g.node(20, 10);
        g.node(10, 10);
        for (int n = 1; n <= 4; n++) {
            g.street(n, n + 1, 1, 1, 0);
        }
        g.plan(1, 5, 0, 0);
        int[] kinds = {2, 1, 3};
        for (int i = 0; i < 3; i++) {
            Check.due("kind " + i, g.advice(i, 0), kinds[i]);
            Check.due("street " + i, g.advice(i, 1), i + 2);
            Check.due("kind " + i + " again", g.advice(i, 0), kinds[i]);
        }
        g.plan(2, 4, 0, 0);
        Check.due("of the WAY that there is then", g.advice(0, 0), 1);
        Check.due("of the WAY that there is then", g.advice(0, 1), 3);
    }

    private static void adviceAsked() {
        Check.sentence("2: 1 if this was not asked of it before (for this WAY), 0 if it was");
        RouteGuide g = Maps.chain(4, 1, 1, 0);
        g.plan(1, 5, 0, 0);
        g.advice(0, 0);
        g.advice(0, 1);
        g.advice(0, 3);
        g.advice(0, -1);
        g.advice(3, 2);
        Check.due("only asking for 2 counts", g.advice(0, 2), 1);
        Check.due("asked", g.advice(0, 2), 0);
        Check.due("asked twice", g.advice(0, 2), 0);
        Check.due("kind and street are as before", g.advice(0, 1), 2);
        Check.due("the streets are as before", g.at(0), 1);
        Check.due("the last of it", g.advice(2, 2), 1);
        Check.due("the one between", g.advice(1, 2), 1);
        Check.due("the last of it, asked", g.advice(2, 2), 0);
        Check.due("the same row found anew stays", g.replan(0), 0);
        Check.due("asked for this WAY", g.advice(1, 2), 0);
        g.street(4, 5, 1, 2, 0);
        Check.due("another row is taken", g.replan(0), 1);
        for (int i = 0; i < 3; i++) {
            Check.due("not asked for this WAY", g.advice(i, 2), 1);
            Check.due("asked for this WAY", g.advice(i, 2), 0);
        }
        g.plan(2, 5, 0, 0);
        Check.due("not asked for a WAY planned", g.advice(0, 2), 1);
        Check.due("not asked for a WAY planned", g.advice(1, 2), 1);
    }

    private static void adviceRefused() {
        Check.sentence("-1 there is none, -2 no such what");
        RouteGuide g = Maps.chain(3, 1, 1, 0);
        Check.due("no WAY", g.advice(0, 0), -1);
        Check.due("no WAY, and no such what", g.advice(0, 3), -1);
        g.plan(1, 1, 0, 0);
        Check.due("the empty row", g.advice(0, 0), -1);
        Check.due("the empty row", g.advice(-1, 0), -1);
        g.plan(1, 2, 0, 0);
        Check.due("a row of one", g.advice(0, 0), -1);
        g.plan(1, 3, 0, 0);
        Check.due("a row of two", g.advice(0, 0), 0);
        Check.due("a row of two", g.advice(1, 0), -1);
        g.plan(1, 4, 0, 0);
        for (int what = 0; what <= 2; what++) {
            Check.due("i -1", g.advice(-1, what), -1);
            Check.due("i 2", g.advice(2, what), -1);
            Check.due("the least int", g.advice(Integer.MIN_VALUE, what), -1);
            Check.due("the greatest int", g.advice(Integer.MAX_VALUE, what), -1);
        }
        Check.due("what -1", g.advice(0, -1), -2);
        Check.due("what 3", g.advice(0, 3), -2);
        Check.due("what 3 of the last", g.advice(1, 3), -2);
        Check.due("the least what", g.advice(1, Integer.MIN_VALUE), -2);
        Check.due("the greatest what", g.advice(1, Integer.MAX_VALUE), -2);
        Check.due("i 2, and no such what", g.advice(2, 3), -1);
        Check.due("i -1, and no such what", g.advice(-1, -1), -1);
    }

    private static void search() {
        Check.sentence("A letter more of a name (97 .. 122), or none any more (0): how many nodes have names that begin so");
        RouteGuide g = new RouteGuide();
        Check.due("none in the empty map", g.search(97), 0);
        g.node(0, 0);
        Check.due("none any more", g.search(0), 1);
        Check.due("none any more, again", g.search(0), 1);
        Check.due("97", g.search(97), 1);
        g.node(0, 0);
        Check.due("aa, with a node more", g.search(97), 2);
        Check.due("aac is the second node", g.search(99), 1);
        Check.due("none any more behind three letters", g.search(0), 2);
        Check.due("122", g.search(122), 0);
        Check.due("za", g.search(97), 0);
        Check.due("zaz", g.search(122), 0);
        Check.due("none any more, though none was found", g.search(0), 2);
        for (int n = 3; n <= 60; n++) {
            g.node(0, 0);
        }
        Check.due("the full map", g.search(0), 60);
        g.search(97);
        g.search(97);
        Check.due("aaz", g.search(122), 1);
    }

    private static void searchRefused() {
        Check.sentence("-2 another number, -3 there are three letters already");
        RouteGuide g = Maps.withNodes(3);
        int[] none = {-1, 1, 96, 123, 65, 90, 97 + 256, Integer.MIN_VALUE, Integer.MAX_VALUE};
        int[] letters = {97, 97, 98};
        for (int typed = 0; typed <= 3; typed++) {
            for (int c : none) {
                Check.due("behind " + typed + " letters: " + c, g.search(c), -2);
            }
            if (typed < 3) {
                Check.due("letter " + typed, g.search(letters[typed]), typed < 2 ? 3 : 1);
            }
        }
        Check.due("a fourth letter", g.search(97), -3);
        Check.due("a fourth letter again", g.search(122), -3);
        Check.due("0 is taken", g.search(0), 3);
        Check.due("and there is room for a letter", g.search(97), 3);
    }

    private static void last() {
        Check.sentence("The LAST charger of the last plan() or replan(); 0 if it found a way, or there is none");
        RouteGuide g = Maps.chain(2, 1, 1000, 0);
        g.charger(2, 1);
        Check.due("nothing planned", g.last(), 0);
        Check.due("no way", g.plan(2, 1, 2, 0), -1);
        Check.due("of the last plan()", g.last(), 2);
        Check.due("refused", g.plan(2, 1, 2, 21), -2);
        Check.due("of the plan() before the refused one", g.last(), 2);
        Check.due("a way", g.plan(2, 3, 2, 0), 1);
        Check.due("it found a way", g.last(), 0);
        g.traffic(2, 0, 4);
        Check.due("none is found", g.replan(0), 0);
        Check.due("of the last replan()", g.last(), 2);
        Check.due("refused", g.replan(-1), -2);
        Check.due("of the replan() before the refused one", g.last(), 2);
        g.charger(2, 0);
        Check.due("a charger that goes later", g.last(), 2);
        Check.due("none is found", g.replan(0), 0);
        Check.due("there is none", g.last(), 0);
        g.charger(2, 1);
        Check.due("a charger that comes later", g.last(), 0);
        Check.due("found, but the same row", g.replan(0), 0);
        Check.due("it found a way", g.last(), 0);
        Check.due("no way", g.plan(2, 1, 2, 0), -1);
        Check.due("told", g.last(), 2);
        Check.due("the empty row", g.plan(2, 2, 2, 0), 0);
        Check.due("it found a way", g.last(), 0);
        Check.due("no way", g.plan(2, 1, 2, 0), -1);
        Check.due("no way by time", g.plan(2, 1, 0, 0), -1);
        Check.due("there is none by time", g.last(), 0);
    }

    private static void part() {
        Check.sentence("Part n (0 .. 7) of an edition of the map comes: 1 it is taken");
        RouteGuide g = new RouteGuide();
        for (int n = 0; n <= 7; n++) {
            Check.due("part " + n, g.part(1, n), 1);
            Check.due("part " + n + " was there", g.part(1, n), 0);
        }
        Check.sentence("When all eight are there, the next one begins another edition, of a greater number "
            + "(one of an edition that is not greater: 0)");
        for (int n = 0; n <= 7; n++) {
            Check.due("the same edition, part " + n, g.part(1, n), 0);
        }
        Check.due("the edition greater by one", g.part(2, 7), 1);
        Check.due("which has begun", g.part(2, 7), 0);
        Check.due("with the other parts to come", g.part(2, 0), 1);
        Check.due("and no greater one", g.part(3, 1), 0);
        for (int n = 1; n <= 6; n++) {
            Check.due("part " + n, g.part(2, n), 1);
        }
        Check.due("a lesser edition", g.part(1, 0), 0);
        Check.due("the same edition", g.part(2, 0), 0);
        Check.due("the greatest edition", g.part(Integer.MAX_VALUE, 0), 1);
        for (int n = 1; n <= 7; n++) {
            Check.due("part " + n, g.part(Integer.MAX_VALUE, n), 1);
        }
        Check.due("none is greater", g.part(Integer.MAX_VALUE, 0), 0);
        Check.due("nor is this", g.part(1, 0), 0);
    }

    private static void partOfAnotherEdition() {
        Check.sentence("0 if it is of another edition than the parts that came before, or was there");
        RouteGuide g = new RouteGuide();
        Check.due("the first part is of any edition", g.part(5, 3), 1);
        for (int n = 0; n <= 7; n++) {
            Check.due("a lesser edition, part " + n, g.part(4, n), 0);
            Check.due("a greater edition, part " + n, g.part(6, n), 0);
        }
        for (int n = 0; n <= 6; n++) {
            Check.due("of the same edition, part " + n, g.part(5, n), n == 3 ? 0 : 1);
        }
        Check.due("seven are there: a greater edition does not begin", g.part(6, 7), 0);
        Check.due("seven are there: one of them", g.part(5, 6), 0);
        Check.due("the eighth", g.part(5, 7), 1);
        Check.due("eight are there: a greater edition begins", g.part(6, 7), 1);
        Check.due("the edition before is another one now", g.part(5, 0), 0);
    }

    private static void partRefused() {
        Check.sentence("-2 there is no such part, or the edition is below 1");
        RouteGuide g = new RouteGuide();
        for (int round = 0; round < 3; round++) {
            Check.due("part -1", g.part(1, -1), -2);
            Check.due("part 8", g.part(1, 8), -2);
            Check.due("part 32", g.part(1, 32), -2);
            Check.due("the least part", g.part(1, Integer.MIN_VALUE), -2);
            Check.due("the greatest part", g.part(1, Integer.MAX_VALUE), -2);
            Check.due("edition 0", g.part(0, 0), -2);
            Check.due("edition -1", g.part(-1, 7), -2);
            Check.due("the least edition", g.part(Integer.MIN_VALUE, 0), -2);
            Check.due("no part of no edition", g.part(0, 8), -2);
            for (int n = 4 * round; n < 4 * round + 4 && n <= 7; n++) {
                Check.due("part " + n, g.part(1, n), 1);
            }
        }
    }
}
