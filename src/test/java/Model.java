import java.util.ArrayList;
import java.util.Arrays;
import java.util.HashMap;
import java.util.HashSet;
import java.util.List;
import java.util.Map;
import java.util.Set;

/**
 * The document's ways in another form, for comparison: forward, for each
 * number of streets the least cost and row of each street and energy.
 */
final class Model {
    final List<long[]> nodes = new ArrayList<>();
    final List<long[]> streets = new ArrayList<>();
    final Set<List<Integer>> barred = new HashSet<>();
    final Map<Integer, Long> chargers = new HashMap<>();
    final Map<Integer, long[]> traffic = new HashMap<>();
    long plans = 0;
    int[] row = null;
    long cost = -1;
    int last = 0;
    private int from;
    private int to;
    private int kind;
    private int energy;

    /** A row with what it costs. */
    private static final class Label {
        final long cost;
        final int[] row;

        Label(long cost, int[] row) {
            this.cost = cost;
            this.row = row;
        }

        boolean isLess(Label other) {
            if (other == null || cost != other.cost) {
                return other == null || cost < other.cost;
            }
            if (row.length != other.row.length) {
                return row.length < other.row.length;
            }
            return Arrays.compare(row, other.row) < 0;
        }

        Label plus(long more, int street) {
            int[] longer = Arrays.copyOf(row, row.length + 1);
            longer[row.length] = street;
            return new Label(cost + more, longer);
        }
    }

    int plan(int first, int end, int how, int units) {
        from = first;
        to = end;
        kind = how;
        energy = units;
        Label found = find();
        row = found == null ? null : found.row;
        cost = found == null ? -1 : found.cost;
        return found == null ? -1 : row.length;
    }

    int replan(long gain) {
        Label found = find();
        if (found == null) {
            return 0;
        }
        if (row != null) {
            long now = costOf(row);
            if (now >= 0 && (now - found.cost < gain || Arrays.equals(row, found.row))) {
                return 0;
            }
        }
        row = found.row;
        cost = found.cost;
        return 1;
    }

    int trafficNext() {
        int n = 0;
        for (long[] t : traffic.values()) {
            n += t[1] > plans ? 1 : 0;
        }
        return n;
    }

    private int end(int s) {
        return s == 0 ? from : (int) streets.get(s - 1)[1];
    }

    private long speed(int s) {
        long[] t = traffic.get(s);
        return t != null && plans <= t[1] ? t[0] : streets.get(s - 1)[3];
    }

    private long price(int s) {
        long length = streets.get(s - 1)[2];
        return kind == 1 ? length : 1000 * length / speed(s);
    }

    private int use(int s) {
        return kind == 2 ? (int) (1 + streets.get(s - 1)[2] * (1 + streets.get(s - 1)[4]) / 20000) : 0;
    }

    private boolean mayFollow(int s, int t) {
        return streets.get(t - 1)[0] == end(s) && speed(t) != 0 && !barred.contains(List.of(s, t));
    }

    private Label[][] start() {
        Label[][] labels = new Label[streets.size() + 1][21];
        labels[0][energy] = new Label(0, new int[0]);
        return labels;
    }

    private void charge(int s, Label[] labels) {
        Long rate = chargers.get(end(s));
        if (rate == null || kind != 2) {
            return;
        }
        long unit = Math.max(1, 1000 / rate);
        for (int e = 0; e < 20; e++) {
            if (labels[e] != null) {
                Label more = new Label(labels[e].cost + unit, labels[e].row);
                labels[e + 1] = more.isLess(labels[e + 1]) ? more : labels[e + 1];
            }
        }
    }

    private Label find() {
        plans++;
        last = 0;
        if (from == to) {
            return new Label(0, new int[0]);
        }
        Label best = null;
        Label[][] now = start();
        boolean[] seen = new boolean[streets.size() + 1];
        Label[][] had = new Label[streets.size() + 1][21];
        for (int k = 0; k <= 20 * streets.size() + 1; k++) {
            Label[][] next = new Label[streets.size() + 1][21];
            boolean worth = false;
            for (int s = 0; s <= streets.size(); s++) {
                charge(s, now[s]);
                for (int e = 0; e <= 20; e++) {
                    Label label = now[s][e];
                    // What was had by fewer streets for no more can't become a lesser way.
                    if (label == null || !label.isLess(had[s][e])) {
                        continue;
                    }
                    had[s][e] = label;
                    seen[s] = true;
                    if (end(s) == to) {
                        best = label.isLess(best) ? label : best;
                    }
                    worth |= best == null || label.cost < best.cost;
                    for (int t = 1; t <= streets.size(); t++) {
                        if (mayFollow(s, t) && e >= use(t)) {
                            Label on = label.plus(price(t), t);
                            int left = e - use(t);
                            next[t][left] = on.isLess(next[t][left]) ? on : next[t][left];
                        }
                    }
                }
            }
            if (!worth) {
                break;
            }
            now = next;
        }
        if (best == null && kind == 2) {
            last = nearest(seen);
        }
        return best;
    }

    private int nearest(boolean[] seen) {
        int best = 0;
        long least = Long.MAX_VALUE;
        for (int n = 1; n <= nodes.size(); n++) {
            boolean reached = false;
            for (int s = 0; s <= streets.size(); s++) {
                reached |= seen[s] && end(s) == n;
            }
            long dx = nodes.get(n - 1)[0] - nodes.get(to - 1)[0];
            long dy = nodes.get(n - 1)[1] - nodes.get(to - 1)[1];
            if (reached && chargers.containsKey(n) && dx * dx + dy * dy < least) {
                least = dx * dx + dy * dy;
                best = n;
            }
        }
        return best;
    }

    private long costOf(int[] streetsOfWay) {
        Label[] labels = start()[0];
        int s = 0;
        for (int t : streetsOfWay) {
            if (!mayFollow(s, t)) {
                return -1;
            }
            charge(s, labels);
            Label[] next = new Label[21];
            for (int e = use(t); e <= 20; e++) {
                next[e - use(t)] = labels[e] == null ? null : labels[e].plus(price(t), t);
            }
            labels = next;
            s = t;
        }
        long least = -1;
        for (Label label : labels) {
            least = label != null && (least < 0 || label.cost < least) ? label.cost : least;
        }
        return least;
    }
}
