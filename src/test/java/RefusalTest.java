import java.util.ArrayList;
import java.util.List;

/**
 * "REFUSALS change nothing and answer, the first that fits": two objects go the same way, one of
 * them is refused something on it, and afterwards both answer a long row of calls alike.
 */
public final class RefusalTest {
    /** A run of calls that brings a new object into a state. */
    private interface State {
        void bring(RouteGuide g);
    }

    /** A call that is refused in a state. */
    private interface Call {
        long on(RouteGuide g);
    }

    private static final int THROWN = -100;

    private final String name;
    private final State state;

    private RefusalTest(String name, State state) {
        this.name = name;
        this.state = state;
    }

    public static void main(String[] args) {
        Check.sentence("REFUSALS change nothing and answer, the first that fits");
        List<RefusalTest> states = new ArrayList<>();
        states.add(new RefusalTest("new", g -> { }));
        states.add(new RefusalTest("map without a plan", RefusalTest::makeMap));
        states.add(new RefusalTest("way", RefusalTest::makeWay));
        states.add(new RefusalTest("empty row", RefusalTest::makeEmptyRow));
        states.add(new RefusalTest("no way", RefusalTest::makeNoWay));
        states.add(new RefusalTest("full map", RefusalTest::makeFullMap));
        for (RefusalTest test : states) {
            test.everywhere();
        }
        for (RefusalTest test : states.subList(0, 2)) {
            test.refused("replan(0)", g -> g.replan(0), -3);
            test.refused("replan(greatest)", g -> g.replan(Long.MAX_VALUE), -3);
            test.refused("advice(0, 0)", g -> g.advice(0, 0), -1);
        }
        for (RefusalTest test : states.subList(1, 5)) {
            test.onTheSmallMap();
        }
        for (RefusalTest test : states.subList(2, 3)) {
            test.withAWay();
        }
        states.get(0).onTheEmptyMap();
        states.get(5).onTheFullMap();
        new RefusalTest("three letters", RefusalTest::makeLetters).refused("search(98)", g -> g.search(98), -3);
        Check.end();
    }

    private static void makeMap(RouteGuide g) {
        long[][] places = {{0, 0}, {100, 0}, {200, 50}, {100, 100}, {300, 0}};
        for (long[] place : places) {
            g.node(place[0], place[1]);
        }
        g.street(1, 2, 100, 10, 0);
        g.street(2, 3, 100, 10, 1);
        g.street(1, 4, 20000, 100, 0);
        g.street(4, 3, 30000, 500, 2);
        g.street(3, 5, 100, 10, 0);
        g.street(2, 1, 50, 5, 3);
        g.turn(1, 6, true);
        g.charger(2, 100);
        g.traffic(2, 7, 3);
        g.search('a');
        g.search('a');
        g.part(4, 1);
        g.part(4, 6);
    }

    private static void makeWay(RouteGuide g) {
        makeMap(g);
        g.plan(1, 5, 2, 2);
        g.advice(1, 2);
    }

    private static void makeEmptyRow(RouteGuide g) {
        makeMap(g);
        g.plan(3, 3, 1, 0);
        g.search(0);
    }

    private static void makeNoWay(RouteGuide g) {
        makeMap(g);
        g.plan(2, 4, 0, 0);
        g.turn(6, 3, true);
        g.plan(2, 4, 2, 0);
        for (int n = 0; n <= 7; n++) {
            g.part(4, n);
        }
    }

    private static void makeFullMap(RouteGuide g) {
        for (int n = 1; n <= 60; n++) {
            g.node(100 * n, 7 * n);
        }
        for (int s = 1; s <= 120; s++) {
            int a = 1 + (s - 1) % 60;
            g.street(a, s <= 60 ? 1 + a % 60 : 1 + (a + 6) % 60, 100 + s, 10, s % 4);
        }
        g.charger(9, 10);
        g.plan(1, 30, 2, 20);
        g.advice(0, 2);
        g.search('a');
    }

    private static void makeLetters(RouteGuide g) {
        makeMap(g);
        g.search('c');
    }

    private static long answer(Call call, RouteGuide g) {
        try {
            return call.on(g);
        } catch (ArithmeticException e) {
            return THROWN;
        }
    }

    private void refused(String what, Call call, long want) {
        RouteGuide asked = new RouteGuide();
        RouteGuide other = new RouteGuide();
        state.bring(asked);
        state.bring(other);
        Check.due(name + ": " + what, answer(call, asked), want);
        Check.due(name + ": " + what + " again", answer(call, asked), want);
        List<Long> got = probe(asked);
        List<Long> due = probe(other);
        for (int i = 0; i < due.size(); i++) {
            Check.due(name + ": behind " + what + ", probe " + i, got.get(i), due.get(i));
        }
    }

    /** What is refused in whatever state. */
    private void everywhere() {
        refused("node(10001, 0)", g -> g.node(10001, 0), -2);
        refused("node(0, -10001)", g -> g.node(0, -10001), -2);
        refused("street(0, 1)", g -> g.street(0, 1, 1, 1, 0), -1);
        refused("street(1, 61)", g -> g.street(1, 61, 1, 1, 0), -1);
        refused("turn(0, 1)", g -> g.turn(0, 1, true), -1);
        refused("turn(1, 121)", g -> g.turn(1, 121, true), -1);
        refused("charger(0, 1)", g -> g.charger(0, 1), -1);
        refused("charger(61, 0)", g -> g.charger(61, 0), -1);
        refused("plan(0, 1)", g -> g.plan(0, 1, 0, 0), -2);
        refused("plan(1, 61)", g -> g.plan(1, 61, 2, 0), -2);
        refused("plan by kind 3", g -> g.plan(1, 2, 3, 0), -2);
        refused("plan by kind -1", g -> g.plan(1, 2, -1, 0), -2);
        refused("plan with 21", g -> g.plan(1, 2, 2, 21), -2);
        refused("plan with -1", g -> g.plan(1, 1, 2, -1), -2);
        refused("snap(20001, 0)", g -> g.snap(20001, 0, 0), -2);
        refused("snap by heading 8", g -> g.snap(0, 0, 8), -2);
        refused("traffic(0)", g -> g.traffic(0, 1, 9), -1);
        refused("traffic(121)", g -> g.traffic(121, 0, 9), -1);
        refused("replan(-1)", g -> g.replan(-1), -2);
        refused("advice(-1, 2)", g -> g.advice(-1, 2), -1);
        refused("advice(greatest, 2)", g -> g.advice(Integer.MAX_VALUE, 2), -1);
        refused("search(96)", g -> g.search(96), -2);
        refused("search(123)", g -> g.search(123), -2);
        refused("part(0, 0)", g -> g.part(0, 0), -2);
        refused("part(9, 8)", g -> g.part(9, 8), -2);
        refused("part(4, -1)", g -> g.part(4, -1), -2);
    }

    private void onTheEmptyMap() {
        refused("street(1, 2)", g -> g.street(1, 2, 1, 1, 0), -1);
        refused("street(1, 2) of speed 0", g -> g.street(1, 2, 1, 0, 0), -1);
        refused("turn(1, 1)", g -> g.turn(1, 1, true), -1);
        refused("charger(1, 1)", g -> g.charger(1, 1), -1);
        refused("plan(1, 1)", g -> g.plan(1, 1, 0, 0), -2);
        refused("traffic(1)", g -> g.traffic(1, 1, 1), -1);
    }

    private void onTheSmallMap() {
        refused("street(6, 1)", g -> g.street(6, 1, 1, 1, 0), -1);
        refused("street(1, 1)", g -> g.street(1, 1, 1, 1, 0), -2);
        refused("street of length 0", g -> g.street(1, 2, 0, 1, 0), -2);
        refused("street of length 100001", g -> g.street(1, 2, 100001, 1, 0), -2);
        refused("street of speed -1", g -> g.street(1, 2, 1, -1, 0), -2);
        refused("street of speed 1001", g -> g.street(1, 2, 1, 1001, 0), -2);
        refused("street of class 4", g -> g.street(1, 2, 1, 1, 4), -2);
        refused("street of speed 0", g -> g.street(1, 2, 1, 0, 0), THROWN);
        refused("turn(7, 1)", g -> g.turn(7, 1, true), -1);
        refused("turn(2, 1)", g -> g.turn(2, 1, true), -2);
        refused("turn(1, 1)", g -> g.turn(1, 1, false), -2);
        refused("charger(6, 1)", g -> g.charger(6, 1), -1);
        refused("charger(2, -1)", g -> g.charger(2, -1), -2);
        refused("charger(2, 1000001)", g -> g.charger(2, 1000001), -2);
        refused("traffic(7)", g -> g.traffic(7, 0, 99), -1);
        refused("traffic of speed -1", g -> g.traffic(2, -1, 99), -2);
        refused("traffic of speed 1001", g -> g.traffic(2, 1001, 99), -2);
        refused("traffic until -1", g -> g.traffic(2, 0, -1), -2);
    }

    private void withAWay() {
        refused("advice(2, 2)", g -> g.advice(2, 2), -1);
        refused("advice(0, 3)", g -> g.advice(0, 3), -2);
        refused("advice(0, -1)", g -> g.advice(0, -1), -2);
    }

    private void onTheFullMap() {
        refused("node 61", g -> g.node(0, 0), -4);
        refused("street 121", g -> g.street(1, 2, 1, 1, 0), -4);
        refused("street 121 of speed 0", g -> g.street(1, 2, 1, 0, 0), -4);
        refused("turn(1, 3)", g -> g.turn(1, 3, true), -2);
        refused("charger(9, -1)", g -> g.charger(9, -1), -2);
        refused("traffic(120) of speed -1", g -> g.traffic(120, -1, 1), -2);
    }

    private static List<Long> probe(RouteGuide g) {
        List<Long> answers = new ArrayList<>();
        askTheWay(g, answers);
        for (int i = 0; i <= 2; i++) {
            answers.add((long) g.advice(i, 2));
        }
        answers.add((long) g.search('b'));
        answers.add((long) g.search('a'));
        askParts(g, answers);
        askSnap(g, answers);
        answers.add((long) g.replan(0));
        askTheWay(g, answers);
        answers.add((long) g.plan(1, 5, 2, 3));
        askTheWay(g, answers);
        answers.add((long) g.plan(1, 3, 1, 0));
        askTheWay(g, answers);
        answers.add((long) g.plan(2, 4, 2, 0));
        askTheWay(g, answers);
        askTraffic(g, answers);
        askTurns(g, answers);
        answers.add((long) g.charger(1, 0));
        answers.add((long) g.search(0));
        answers.add((long) g.node(5, 5));
        answers.add((long) g.node(6, 6));
        answers.add((long) g.street(1, 2, 1, 1, 0));
        return answers;
    }

    private static void askTheWay(RouteGuide g, List<Long> answers) {
        answers.add(g.cost());
        answers.add((long) g.last());
        for (int i = 0; i <= 4; i++) {
            answers.add((long) g.at(i));
        }
        for (int i = 0; i <= 3; i++) {
            answers.add((long) g.advice(i, 0));
        }
    }

    private static void askParts(RouteGuide g, List<Long> answers) {
        for (int edition = 3; edition <= 5; edition++) {
            for (int n = 0; n <= 7; n += 3) {
                answers.add((long) g.part(edition, n));
            }
        }
    }

    private static void askSnap(RouteGuide g, List<Long> answers) {
        for (int heading = -1; heading <= 7; heading++) {
            answers.add((long) g.snap(100, 10, heading));
        }
    }

    /** The count tells which plan is next, and of how many streets there is traffic then. */
    private static void askTraffic(RouteGuide g, List<Long> answers) {
        for (int until = 0; until <= 8; until++) {
            answers.add((long) g.traffic(1, 9, until));
        }
    }

    private static void askTurns(RouteGuide g, List<Long> answers) {
        for (int from = 1; from <= 6; from++) {
            for (int to = 1; to <= 6; to++) {
                answers.add((long) g.turn(from, to, true));
            }
        }
    }
}
