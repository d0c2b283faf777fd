import java.math.BigInteger;
import java.util.Random;

/** Places snapped on made-up maps, always the same ones, against fractions of any size. */
public final class RandomSnapTest {
    private static final double EIGHTH = Math.PI / 4;

    private final Random random;
    private final RouteGuide guide = new RouteGuide();
    private final long[][] nodes = new long[8][];
    private final int[][] streets = new int[12][];
    private final String name;
    private static int snapped = 0;

    private RandomSnapTest(int seed) {
        random = new Random(seed);
        name = "map " + seed + ": ";
    }

    public static void main(String[] args) {
        for (int seed = 1; seed <= 300; seed++) {
            RandomSnapTest test = new RandomSnapTest(seed);
            long size = seed % 3 == 0 ? 10000 : seed % 3 == 1 ? 60 : 12;
            test.makeMap(size);
            for (int call = 0; call < 200; call++) {
                test.snap(size);
            }
        }
        System.out.println(snapped + " places snapped");
        Check.isTrue("the maps try enough", snapped > 5000);
        Check.end();
    }

    private long coordinate(long size) {
        return random.nextInt((int) (2 * size + 1)) - size;
    }

    private void makeMap(long size) {
        for (int n = 0; n < nodes.length; n++) {
            nodes[n] = new long[] {coordinate(size), coordinate(size)};
            guide.node(nodes[n][0], nodes[n][1]);
        }
        for (int s = 0; s < streets.length; s++) {
            int a = random.nextInt(nodes.length);
            int b = (a + 1 + random.nextInt(nodes.length - 1)) % nodes.length;
            streets[s] = new int[] {a, b};
            guide.street(a + 1, b + 1, 1, 1, 0);
        }
    }

    /** Near a place between the ends of a street, or anywhere. */
    private void snap(long size) {
        long x = coordinate(2 * size);
        long y = coordinate(2 * size);
        if (random.nextInt(4) > 0) {
            int[] s = streets[random.nextInt(streets.length)];
            double t = random.nextDouble() * 1.2 - 0.1;
            x = Math.round(nodes[s[0]][0] + t * (nodes[s[1]][0] - nodes[s[0]][0])) + coordinate(60);
            y = Math.round(nodes[s[0]][1] + t * (nodes[s[1]][1] - nodes[s[0]][1])) + coordinate(60);
        }
        int heading = random.nextInt(9) - 1;
        int want = nearest(x, y, heading);
        snapped += want > 0 ? 1 : 0;
        Check.due(name + "snap(" + x + ", " + y + ", " + heading + ")", guide.snap(x, y, heading), want);
    }

    private int nearest(long x, long y, int heading) {
        int nearest = 0;
        BigInteger least = BigInteger.valueOf(2501);
        for (int s = 0; s < streets.length; s++) {
            long[] a = nodes[streets[s][0]];
            long[] b = nodes[streets[s][1]];
            if (heading < 0 || fits(b[0] - a[0], b[1] - a[1], heading)) {
                BigInteger square = square(x - a[0], y - a[1], b[0] - a[0], b[1] - a[1]);
                if (square.compareTo(least) < 0) {
                    least = square;
                    nearest = s + 1;
                }
            }
        }
        return nearest;
    }

    /** By the angle; whole coordinates are never so near a bound that doubles miss it but on it. */
    private static boolean fits(long vx, long vy, int heading) {
        if (vx == 0 && vy == 0) {
            return false;
        }
        double angle = Math.atan2(vy, vx);
        int octant = (int) Math.floor(angle / EIGHTH + 1e-12);
        int apart = Math.floorMod(octant - heading, 8);
        return apart <= 1 || apart == 7;
    }

    /** p less t times v, with t = along / full held between 0 and 1, squared, over full squared. */
    private static BigInteger square(long px, long py, long vx, long vy) {
        long full = vx * vx + vy * vy;
        long along = full == 0 ? 0 : Math.min(full, Math.max(0, px * vx + py * vy));
        long under = full == 0 ? 1 : full;
        BigInteger dx = BigInteger.valueOf(px).multiply(BigInteger.valueOf(under))
            .subtract(BigInteger.valueOf(along).multiply(BigInteger.valueOf(vx)));
        BigInteger dy = BigInteger.valueOf(py).multiply(BigInteger.valueOf(under))
            .subtract(BigInteger.valueOf(along).multiply(BigInteger.valueOf(vy)));
        BigInteger over = dx.multiply(dx).add(dy.multiply(dy));
        return over.divide(BigInteger.valueOf(under).multiply(BigInteger.valueOf(under)));
    }
}
