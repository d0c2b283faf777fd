import java.util.Random;

/** Places snapped on made-up maps, always the same ones, against PlainGuide's fractions of any size. */
public final class RandomSnapTest {
    private final Random random;
    private final RouteGuide guide = new RouteGuide();
    private final PlainGuide plain = new PlainGuide();
    private final long[][] nodes = new long[8][];
    private final int[][] streets = new int[12][];
    private final String name;
    private static int snapped = 0;

    private RandomSnapTest(int seed) {
        random = new Random(seed);
        name = "map " + seed + ": ";
    }

    public static void main(String[] args) {
        for (int seed = 1; seed <= 300; seed++) {
            RandomSnapTest test = new RandomSnapTest(seed);
            long size = seed % 3 == 0 ? 10000 : seed % 3 == 1 ? 60 : 12;
            test.makeMap(size);
            for (int call = 0; call < 200; call++) {
                test.snap(size);
            }
        }
        System.out.println(snapped + " places snapped");
        Check.isTrue("the maps try enough", snapped > 5000);
        Check.end();
    }

    private long coordinate(long size) {
        return random.nextInt((int) (2 * size + 1)) - size;
    }

    private void makeMap(long size) {
        for (int n = 0; n < nodes.length; n++) {
            nodes[n] = new long[] {coordinate(size), coordinate(size)};
            guide.node(nodes[n][0], nodes[n][1]);
            plain.node(nodes[n][0], nodes[n][1]);
        }
        for (int s = 0; s < streets.length; s++) {
            int a = random.nextInt(nodes.length);
            int b = (a + 1 + random.nextInt(nodes.length - 1)) % nodes.length;
            streets[s] = new int[] {a, b};
            guide.street(a + 1, b + 1, 1, 1, 0);
            plain.street(a + 1, b + 1, 1, 1, 0);
        }
    }

    /** Near a place between the ends of a street, or anywhere. */
    private void snap(long size) {
        long x = coordinate(2 * size);
        long y = coordinate(2 * size);
        if (random.nextInt(4) > 0) {
            int[] s = streets[random.nextInt(streets.length)];
            double t = random.nextDouble() * 1.2 - 0.1;
            x = Math.round(nodes[s[0]][0] + t * (nodes[s[1]][0] - nodes[s[0]][0])) + coordinate(60);
            y = Math.round(nodes[s[0]][1] + t * (nodes[s[1]][1] - nodes[s[0]][1])) + coordinate(60);
        }
        int heading = random.nextInt(9) - 1;
        long want = plain.snap(x, y, heading);
        snapped += want > 0 ? 1 : 0;
        Check.due(name + "snap(" + x + ", " + y + ", " + heading + ")", guide.snap(x, y, heading), want);
    }
}
