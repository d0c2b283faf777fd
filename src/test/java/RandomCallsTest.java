import java.util.EnumMap;
import java.util.HashMap;
import java.util.Map;
import java.util.Random;

/** All calls in any order, 512 on each object, always the same ones, against PlainGuide. */
public final class RandomCallsTest {
    private static final int CALLS = 512;
    private static final long[] ODD = {Long.MIN_VALUE, Integer.MIN_VALUE, -100001, -20001, -10001, -2, -1, 0, 1, 2, 3, 4,
        7, 8, 20, 21, 59, 60, 61, 96, 97, 119, 120, 121, 122, 123, 1000, 1001, 10001, 20001, 100001, 1000001, 1L << 32,
        Integer.MAX_VALUE, Long.MAX_VALUE};

    private enum Call { NODE, STREET, TURN, CHARGER, PLAN, AT, COST, SNAP, TRAFFIC, REPLAN, ADVICE, SEARCH, LAST, PART }

    private static final Call[] ALL = Call.values();
    private static final Call[] ON_A_MAP = {Call.TURN, Call.CHARGER, Call.TRAFFIC, Call.TRAFFIC, Call.PLAN, Call.PLAN,
        Call.AT, Call.COST, Call.SNAP, Call.SNAP, Call.REPLAN, Call.REPLAN, Call.ADVICE, Call.ADVICE, Call.SEARCH,
        Call.LAST, Call.PART, Call.PART};

    /** How often each answer came to each call, so that the runs are seen to try all of them. */
    private static final Map<Call, Map<Long, Integer>> ANSWERS = new EnumMap<>(Call.class);

    private final Random random;
    private final RouteGuide guide = new RouteGuide();
    private final PlainGuide plain = new PlainGuide();
    private final int seed;
    private final int nodes;
    private final int streets;
    private final int spread;
    private int calls = 0;

    private RandomCallsTest(int seed) {
        this.seed = seed;
        random = new Random(seed);
        boolean full = seed % 8 == 0;
        nodes = full ? 60 : 2 + random.nextInt(7);
        streets = full ? 120 : 1 + random.nextInt(20);
        spread = full ? 10000 : random.nextBoolean() ? 3 : 100;
    }

    public static void main(String[] args) {
        for (Call call : ALL) {
            ANSWERS.put(call, new HashMap<>());
        }
        for (int seed = 1; seed <= 320; seed++) {
            RandomCallsTest test = new RandomCallsTest(seed);
            while (test.calls < CALLS) {
                test.ask(test.next());
            }
        }
        enoughWasTried();
        Check.end();
    }

    private static void enoughWasTried() {
        came(Call.NODE, 1, 60, -2, -4);
        came(Call.STREET, 1, 120, -1, -2, -4, PlainGuide.THROWN);
        came(Call.TURN, 0, 1, -1, -2);
        came(Call.CHARGER, 0, 1, 2, -1, -2);
        came(Call.PLAN, -1, 0, 1, 2, 3, 4, -2);
        came(Call.AT, 0, 1, 2);
        came(Call.COST, -1, 0);
        came(Call.SNAP, 0, 1, 2, -2);
        came(Call.TRAFFIC, 0, 1, 2, -1, -2);
        came(Call.REPLAN, 0, 1, -2, -3);
        came(Call.ADVICE, 0, 1, 2, 3, -1, -2);
        came(Call.SEARCH, 0, 1, 2, -2, -3);
        came(Call.LAST, 0, 1, 2);
        came(Call.PART, 0, 1, -2);
    }

    private static void came(Call call, long... answers) {
        for (long answer : answers) {
            int times = ANSWERS.get(call).getOrDefault(answer, 0);
            Check.isTrue(call + " is answered by " + answer + " often enough, not " + times + " times", times >= 20);
        }
    }

    /** A map that is not made yet is made first, now and then with another call between. */
    private Call next() {
        if (random.nextInt(8) == 0) {
            return ALL[random.nextInt(ALL.length)];
        }
        if (plain.nodes() < nodes) {
            return Call.NODE;
        }
        return plain.streets() < streets ? Call.STREET : ON_A_MAP[random.nextInt(ON_A_MAP.length)];
    }

    private long odd() {
        return ODD[random.nextInt(ODD.length)];
    }

    /** A number from least to most, or, now and then, one beside them or any. */
    private long number(long least, long most) {
        switch (random.nextInt(60)) {
            case 0:
                return odd();
            case 1:
                return least - 1;
            case 2:
                return most + 1;
            default:
                return least + random.nextInt((int) (most - least + 1));
        }
    }

    private long pick(long... choices) {
        return random.nextInt(40) == 0 ? odd() : choices[random.nextInt(choices.length)];
    }

    private int aNode() {
        return (int) number(1, Math.max(1, plain.nodes()));
    }

    private int aStreet() {
        return (int) number(1, Math.max(1, plain.streets()));
    }

    private void ask(Call call) {
        switch (call) {
            case NODE -> node();
            case STREET -> street();
            case TURN -> turn();
            case CHARGER -> charger();
            case PLAN -> plan();
            case AT -> at((int) number(0, plain.rowSize()));
            case COST -> due(call, "", guide.cost(), plain.cost());
            case SNAP -> snap();
            case TRAFFIC -> traffic();
            case REPLAN -> replan();
            case ADVICE -> advice();
            case SEARCH -> search();
            case LAST -> due(call, "", guide.last(), plain.last());
            case PART -> part();
        }
    }

    private void due(Call call, String arguments, long got, long want) {
        calls++;
        Check.due("run " + seed + ", call " + calls + ": " + call + "(" + arguments + ")", got, want);
        ANSWERS.get(call).merge(want, 1, Integer::sum);
    }

    private void node() {
        long x = number(-spread, spread);
        long y = number(-spread, spread);
        due(Call.NODE, x + ", " + y, guide.node(x, y), plain.node(x, y));
    }

    private long answerOfStreet(int a, int b, long metres, long speed, int cls) {
        try {
            return guide.street(a, b, metres, speed, cls);
        } catch (ArithmeticException e) {
            return PlainGuide.THROWN;
        }
    }

    private void street() {
        int a = aNode();
        int b = aNode();
        long metres = pick(1, 1, 2, 3, 9999, 20000, 60000, 100000);
        long speed = pick(1000, 1000, 500, 3, random.nextInt(5));
        int cls = (int) number(0, 3);
        due(Call.STREET, a + ", " + b + ", " + metres + ", " + speed + ", " + cls,
            answerOfStreet(a, b, metres, speed, cls), plain.street(a, b, metres, speed, cls));
    }

    private void turn() {
        int from = aStreet();
        int to = aStreet();
        boolean barred = random.nextInt(3) > 0;
        due(Call.TURN, from + ", " + to + ", " + barred, guide.turn(from, to, barred), plain.turn(from, to, barred));
    }

    private void charger() {
        int node = aNode();
        long rate = pick(0, 1, 300, 1000, 1000, 2000, 1000000);
        due(Call.CHARGER, node + ", " + rate, guide.charger(node, rate), plain.charger(node, rate));
    }

    private void traffic() {
        int s = aStreet();
        long speed = pick(0, 0, 1, 500, 1000);
        long until = number(0, plain.plans() + 6);
        due(Call.TRAFFIC, s + ", " + speed + ", " + until, guide.traffic(s, speed, until), plain.traffic(s, speed, until));
    }

    private void plan() {
        int from = aNode();
        int to = aNode();
        int kind = (int) pick(0, 1, 2, 2);
        long energy = number(0, random.nextBoolean() ? 20 : 3);
        due(Call.PLAN, from + ", " + to + ", " + kind + ", " + energy,
            guide.plan(from, to, kind, energy), plain.plan(from, to, kind, energy));
        wholeRow();
    }

    private void replan() {
        long gain = pick(0, 0, 1, 2, 1000, 20000);
        due(Call.REPLAN, "" + gain, guide.replan(gain), plain.replan(gain));
        wholeRow();
    }

    /** Not each time, since the calls of an object have an end. */
    private void wholeRow() {
        if (random.nextInt(3) == 0) {
            for (int i = 0; i < plain.rowSize() && calls < CALLS; i++) {
                at(i);
            }
        }
    }

    private void at(int i) {
        due(Call.AT, "" + i, guide.at(i), plain.at(i));
    }

    private void snap() {
        long x = number(-2 * spread, 2 * spread);
        long y = number(-2 * spread, 2 * spread);
        int heading = (int) number(-1, 7);
        due(Call.SNAP, x + ", " + y + ", " + heading, guide.snap(x, y, heading), plain.snap(x, y, heading));
    }

    private void advice() {
        int i = (int) number(0, Math.max(0, plain.rowSize() - 2));
        int what = (int) number(0, 2);
        due(Call.ADVICE, i + ", " + what, guide.advice(i, what), plain.advice(i, what));
    }

    private void search() {
        int c = (int) pick(0, 'a', 'a', 'a', 'b', 'c', 'a' + random.nextInt(26));
        due(Call.SEARCH, "" + c, guide.search(c), plain.search(c));
    }

    private void part() {
        int edition = (int) number(1, 2);
        int n = (int) number(0, 7);
        due(Call.PART, edition + ", " + n, guide.part(edition, n), plain.part(edition, n));
    }
}
