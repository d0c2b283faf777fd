import java.util.List;
import java.util.Random;

/** Plans on made-up maps, small and full, always the same ones, against the model. */
public final class RandomMapsTest {
    private static int ways = 0;
    private static int taken = 0;
    private static int lasts = 0;
    private static int repeats = 0;

    private final Random random;
    private final RouteGuide guide = new RouteGuide();
    private final Model model = new Model();
    private final String name;
    private boolean planned = false;
    private int exit = 0;

    private RandomMapsTest(int seed) {
        random = new Random(seed);
        name = "map " + seed + ": ";
    }

    public static void main(String[] args) {
        for (int seed = 1; seed <= 400; seed++) {
            RandomMapsTest test = new RandomMapsTest(seed);
            test.makeMap(2 + test.random.nextInt(5), 3 + test.random.nextInt(9));
            test.calls(60);
        }
        for (int seed = 401; seed <= 500; seed++) {
            RandomMapsTest test = new RandomMapsTest(seed);
            test.makeRing();
            test.calls(60);
        }
        for (int seed = 501; seed <= 540; seed++) {
            RandomMapsTest test = new RandomMapsTest(seed);
            test.makeMap(60, 120);
            test.calls(20);
        }
        for (int seed = 541; seed <= 600; seed++) {
            RandomMapsTest test = new RandomMapsTest(seed);
            test.makeThicket(5 + test.random.nextInt(26), 120);
            test.calls(30);
        }
        System.out.println(ways + " ways, " + taken + " taken by replan, " + lasts + " last chargers, "
            + repeats + " ways with a street twice");
        Check.isTrue("the maps try enough", ways > 1000 && taken > 100 && lasts > 100 && repeats > 50);
        Check.end();
    }

    private int pick(int... choices) {
        return choices[random.nextInt(choices.length)];
    }

    private void makeMap(int n, int m) {
        addNodes(n);
        int style = random.nextInt(3);
        for (int i = 0; i < m; i++) {
            int a = 1 + random.nextInt(n);
            int b = 1 + (a + random.nextInt(n - 1)) % n;
            long metres = style == 0 ? pick(1, 2, 3) : style == 1 ? pick(20000, 40000, 60000) : pick(1, 20000, 90000);
            long speed = style == 0 ? pick(500, 1000) : pick(500, 1000, 3);
            int cls = style == 0 ? 0 : random.nextInt(4);
            addStreet(a, b, metres, speed, cls);
        }
        for (int i = 0; i < m / 2; i++) {
            setTurn();
        }
        for (int i = 0; i < n / 2; i++) {
            setCharger();
        }
    }

    /** A ring that is left by a long street: often it must be driven to a charger and on again. */
    private void makeRing() {
        int n = 4 + random.nextInt(3);
        addNodes(n + 1);
        exit = n + 1;
        int exits = 1 + random.nextInt(2);
        for (int i = 0; i < exits; i++) {
            addStreet(1 + random.nextInt(n), n + 1, pick(80000, 90000), 1000, 3);
        }
        for (int a = 1; a <= n; a++) {
            addStreet(a, a % n + 1, pick(1, 2), pick(500, 1000), 0);
        }
        setCharger();
        setCharger();
    }

    /** Many streets of all lengths and speeds: what is least is often found late. */
    private void makeThicket(int n, int m) {
        addNodes(n);
        for (int i = 0; i < m; i++) {
            int a = 1 + random.nextInt(n);
            int b = 1 + (a + random.nextInt(n - 1)) % n;
            addStreet(a, b, 1 + random.nextInt(pick(5, 5000, 100000)), 1 + random.nextInt(1000), random.nextInt(4));
        }
        for (int i = 0; i < m; i++) {
            setTurn();
        }
        for (int i = 0; i < n / 3; i++) {
            setCharger();
        }
    }

    private void addNodes(int n) {
        for (int i = 0; i < n; i++) {
            long x = random.nextInt(4);
            long y = random.nextInt(4);
            model.nodes.add(new long[] {x, y});
            guide.node(x, y);
        }
    }

    private void addStreet(int a, int b, long metres, long speed, int cls) {
        model.streets.add(new long[] {a, b, metres, speed, cls});
        guide.street(a, b, metres, speed, cls);
    }

    private void calls(int count) {
        for (int call = 0; call < count; call++) {
            call();
        }
    }

    private void call() {
        switch (random.nextInt(8)) {
            case 0 -> setTurn();
            case 1 -> setCharger();
            case 2, 3 -> setTraffic();
            case 4, 5 -> replan();
            case 6 -> planOrReplan();
            default -> plan();
        }
    }

    private void planOrReplan() {
        if (exit > 0) {
            plan();
        } else {
            replan();
        }
    }

    private void setTurn() {
        int m = model.streets.size();
        int from = 1 + random.nextInt(m);
        int to = 1 + random.nextInt(m);
        boolean bar = random.nextBoolean();
        long want = -2;
        if (model.streets.get(from - 1)[1] == model.streets.get(to - 1)[0]) {
            List<Integer> turn = List.of(from, to);
            want = (bar ? model.barred.add(turn) : model.barred.remove(turn)) ? 1 : 0;
        }
        Check.due(name + "turn(" + from + ", " + to + ")", guide.turn(from, to, bar), want);
    }

    private void setCharger() {
        int node = 1 + random.nextInt(model.nodes.size());
        long rate = pick(0, 1, 400, 1000, 1000, 5000);
        if (rate == 0) {
            model.chargers.remove(node);
        } else {
            model.chargers.put(node, rate);
        }
        Check.due(name + "charger(" + node + ")", guide.charger(node, rate), model.chargers.size());
    }

    private void setTraffic() {
        int s = 1 + random.nextInt(model.streets.size());
        long speed = pick(0, 1, 500, 1000);
        long until = Math.max(0, model.plans - 1 + random.nextInt(8));
        model.traffic.put(s, new long[] {speed, until});
        Check.due(name + "traffic(" + s + ")", guide.traffic(s, speed, until), model.trafficNext());
    }

    private void plan() {
        int from = 1 + random.nextInt(model.nodes.size());
        int to = 1 + random.nextInt(model.nodes.size());
        int kind = pick(0, 1, 2, 2);
        int energy = kind == 2 ? random.nextInt(random.nextBoolean() ? 21 : 4) : 0;
        if (exit > 0 && random.nextInt(4) > 0) {
            to = exit;
            kind = 2;
            energy = random.nextInt(8);
        }
        planned = true;
        String what = name + "plan(" + from + ", " + to + ", " + kind + ", " + energy + ")";
        Check.due(what, guide.plan(from, to, kind, energy), model.plan(from, to, kind, energy));
        compare(what);
    }

    private void replan() {
        long gain = pick(0, 0, 1, 2, 100, 20000);
        int want = planned ? model.replan(gain) : -3;
        Check.due(name + "replan(" + gain + ")", guide.replan(gain), want);
        taken += want == 1 ? 1 : 0;
        compare(name + "replan(" + gain + ")");
    }

    private void compare(String what) {
        Check.due(what + " cost", guide.cost(), model.cost);
        Check.due(what + " last", guide.last(), model.last);
        lasts += model.last > 0 ? 1 : 0;
        int size = model.row == null ? 0 : model.row.length;
        for (int i = 0; i < size; i++) {
            Check.due(what + " at(" + i + ")", guide.at(i), model.row[i]);
        }
        Check.due(what + " at(" + size + ")", guide.at(size), 0);
        ways += size > 0 ? 1 : 0;
        repeats += size > 0 && java.util.Arrays.stream(model.row).distinct().count() < size ? 1 : 0;
    }
}
