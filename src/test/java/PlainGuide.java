import java.math.BigInteger;
import java.util.HashSet;
import java.util.List;
import java.util.Set;

/** Every call of the document in another form than the class has it, for comparison. */
final class PlainGuide {
    /** Stands for the ArithmeticException among the answers. */
    static final long THROWN = -100;

    private static final double EIGHTH = Math.PI / 4;

    private final Model model = new Model();
    private final Set<Integer> asked = new HashSet<>();
    private final Set<Integer> parts = new HashSet<>();
    private String letters = "";
    private boolean planned = false;
    private int edition = 0;

    int nodes() {
        return model.nodes.size();
    }

    int streets() {
        return model.streets.size();
    }

    int rowSize() {
        return model.row == null ? 0 : model.row.length;
    }

    long plans() {
        return model.plans;
    }

    private static boolean isIn(long value, long least, long most) {
        return least <= value && value <= most;
    }

    private boolean isNode(int n) {
        return isIn(n, 1, nodes());
    }

    private boolean isStreet(int s) {
        return isIn(s, 1, streets());
    }

    private long[] street(int s) {
        return model.streets.get(s - 1);
    }

    private long[] step(int s) {
        long[] a = model.nodes.get((int) street(s)[0] - 1);
        long[] b = model.nodes.get((int) street(s)[1] - 1);
        return new long[] {b[0] - a[0], b[1] - a[1]};
    }

    long node(long x, long y) {
        if (!isIn(x, -10000, 10000) || !isIn(y, -10000, 10000)) {
            return -2;
        }
        if (nodes() == 60) {
            return -4;
        }
        model.nodes.add(new long[] {x, y});
        return nodes();
    }

    long street(int a, int b, long metres, long speed, int cls) {
        if (!isNode(a) || !isNode(b)) {
            return -1;
        }
        if (a == b || !isIn(metres, 1, 100000) || !isIn(speed, 0, 1000) || !isIn(cls, 0, 3)) {
            return -2;
        }
        if (streets() == 120) {
            return -4;
        }
        if (speed == 0) {
            return THROWN;
        }
        model.streets.add(new long[] {a, b, metres, speed, cls});
        return streets();
    }

    long turn(int from, int to, boolean barred) {
        if (!isStreet(from) || !isStreet(to)) {
            return -1;
        }
        if (street(to)[0] != street(from)[1]) {
            return -2;
        }
        List<Integer> turn = List.of(from, to);
        return (barred ? model.barred.add(turn) : model.barred.remove(turn)) ? 1 : 0;
    }

    long charger(int node, long perSecond) {
        if (!isNode(node)) {
            return -1;
        }
        if (!isIn(perSecond, 0, 1000000)) {
            return -2;
        }
        if (perSecond == 0) {
            model.chargers.remove(node);
        } else {
            model.chargers.put(node, perSecond);
        }
        return model.chargers.size();
    }

    long plan(int from, int to, int kind, long energy) {
        if (!isNode(from) || !isNode(to) || !isIn(kind, 0, 2) || kind == 2 && !isIn(energy, 0, 20)) {
            return -2;
        }
        planned = true;
        asked.clear();
        return model.plan(from, to, kind, kind == 2 ? (int) energy : 0);
    }

    long at(int i) {
        return isIn(i, 0, rowSize() - 1) ? model.row[i] : 0;
    }

    long cost() {
        return model.cost;
    }

    long snap(long x, long y, int heading) {
        if (!isIn(x, -20000, 20000) || !isIn(y, -20000, 20000) || !isIn(heading, -1, 7)) {
            return -2;
        }
        int nearest = 0;
        BigInteger least = BigInteger.valueOf(2501);
        for (int s = 1; s <= streets(); s++) {
            if (heading == -1 || fits(step(s), heading)) {
                long[] a = model.nodes.get((int) street(s)[0] - 1);
                BigInteger square = square(x - a[0], y - a[1], step(s)[0], step(s)[1]);
                if (square.compareTo(least) < 0) {
                    least = square;
                    nearest = s;
                }
            }
        }
        return nearest;
    }

    /** By the angle; whole coordinates are never so near a bound that doubles miss it but on it. */
    private static boolean fits(long[] step, int heading) {
        if (step[0] == 0 && step[1] == 0) {
            return false;
        }
        double angle = Math.atan2(step[1], step[0]);
        int octant = (int) Math.floor(angle / EIGHTH + 1e-12);
        int apart = Math.floorMod(octant - heading, 8);
        return apart <= 1 || apart == 7;
    }

    /** p less t times v, with t = along / full held between 0 and 1, squared, over full squared. */
    private static BigInteger square(long px, long py, long vx, long vy) {
        long full = vx * vx + vy * vy;
        long along = full == 0 ? 0 : Math.min(full, Math.max(0, px * vx + py * vy));
        long under = full == 0 ? 1 : full;
        BigInteger dx = BigInteger.valueOf(px).multiply(BigInteger.valueOf(under))
            .subtract(BigInteger.valueOf(along).multiply(BigInteger.valueOf(vx)));
        BigInteger dy = BigInteger.valueOf(py).multiply(BigInteger.valueOf(under))
            .subtract(BigInteger.valueOf(along).multiply(BigInteger.valueOf(vy)));
        BigInteger over = dx.multiply(dx).add(dy.multiply(dy));
        return over.divide(BigInteger.valueOf(under).multiply(BigInteger.valueOf(under)));
    }

    long traffic(int s, long speed, long until) {
        if (!isStreet(s)) {
            return -1;
        }
        if (!isIn(speed, 0, 1000) || until < 0) {
            return -2;
        }
        model.traffic.put(s, new long[] {speed, until});
        return model.trafficNext();
    }

    long replan(long gain) {
        if (gain < 0) {
            return -2;
        }
        if (!planned) {
            return -3;
        }
        int taken = model.replan(gain);
        if (taken == 1) {
            asked.clear();
        }
        return taken;
    }

    long advice(int i, int what) {
        if (!isIn(i, 0, rowSize() - 2)) {
            return -1;
        }
        switch (what) {
            case 0:
                return adviceKind(step(model.row[i]), step(model.row[i + 1]));
            case 1:
                return model.row[i + 1];
            case 2:
                return asked.add(i) ? 1 : 0;
            default:
                return -2;
        }
    }

    private static long adviceKind(long[] a, long[] b) {
        long c = a[0] * b[1] - a[1] * b[0];
        long d = a[0] * b[0] + a[1] * b[1];
        boolean on = 2 * c <= d && -2 * c <= d;
        boolean back = 2 * c <= -d && -2 * c <= -d;
        return on ? 0 : back ? 3 : c > 0 ? 2 : 1;
    }

    long search(int c) {
        if (c != 0 && !isIn(c, 97, 122)) {
            return -2;
        }
        if (c != 0 && letters.length() == 3) {
            return -3;
        }
        letters = c == 0 ? "" : letters + (char) c;
        int found = 0;
        for (int n = 1; n <= nodes(); n++) {
            String name = "" + (char) (97 + n / 676) + (char) (97 + n / 26 % 26) + (char) (97 + n % 26);
            found += name.startsWith(letters) ? 1 : 0;
        }
        return found;
    }

    long last() {
        return model.last;
    }

    long part(int newEdition, int n) {
        if (!isIn(n, 0, 7) || newEdition < 1) {
            return -2;
        }
        if (parts.size() == 8 && newEdition > edition) {
            parts.clear();
        }
        if (parts.isEmpty()) {
            edition = newEdition;
        }
        return newEdition == edition && parts.add(n) ? 1 : 0;
    }
}
